/-! the reference model: odds as naturals; how likely, what a look is worth -/
def fitN (s : Nat) (r : Int32) (w : Nat) : Nat := if r = -1 then 1 else (if r = nI w then 10 - s else (if r = nI ((w + 1) % 3) then s else 0))
theorem F_fitN {s : Nat} (hs : s < 10) (r : Int32) (w : Nat) : F_fit (nI s) r w = nI (fitN s r w) := by
  unfold F_fit fitN
  split
  · rfl
  · split
    · exact nI_sub' (a := 10) (b := s) (by omega)
    · split <;> rfl
theorem fitN_le {s : Nat} (hs : s < 10) (r : Int32) (w : Nat) : fitN s r w ≤ 10 := by
  unfold fitN
  split
  · decide
  · split
    · omega
    · split <;> omega
theorem fit10 {s : Nat} (hs : s < 10) {w : Nat} (hw : w < 3) : fitN s 0 w + fitN s 1 w + fitN s 2 w = 10 := by
  rcases (show w = 0 ∨ w = 1 ∨ w = 2 by omega) with rfl | rfl | rfl
  · rw [show fitN s 0 0 = 10 - s from rfl, show fitN s 1 0 = s from rfl, show fitN s 2 0 = 0 from rfl]; omega
  · rw [show fitN s 0 1 = 0 from rfl, show fitN s 1 1 = 10 - s from rfl, show fitN s 2 1 = s from rfl]; omega
  · rw [show fitN s 0 2 = s from rfl, show fitN s 1 2 = 0 from rfl, show fitN s 2 2 = 10 - s from rfl]; omega
def spN (σ : sg) (k v w : Nat) : Nat := gA σ 2 (v * 3 + w) * fitN (gN σ 4) (F_rdg (gB σ 7) k) w
theorem stS_N {σ : sg} (h4 : gN σ 4 < 10) (hIt : ∀ i, i < 9 → gA σ 2 i ≤ 10) (k : Nat) {v w : Nat} (hv : v < 3) (hw : w < 3) : stS σ k v w = lN (spN σ k v w) := by
  have h1 := hIt (v * 3 + w) (by omega)
  have h2 := fitN_le h4 (F_rdg (gB σ 7) k) w
  unfold stS F_step tnS
  rw [F_fitN h4, lN_ofI (by omega), lN_ofI (by omega), lN_mul]
  rfl
theorem spN_le {σ : sg} (h4 : gN σ 4 < 10) (hIt : ∀ i, i < 9 → gA σ 2 i ≤ 10) (k : Nat) {v w : Nat} (hv : v < 3) (hw : w < 3) : spN σ k v w ≤ 100 :=
  Nat.mul_le_mul (hIt (v * 3 + w) (by omega)) (fitN_le h4 (F_rdg (gB σ 7) k) w)
def odBN (stp : Nat → Nat → Nat → Nat) (wn : Nat) (wof : Nat → Nat) : Nat → Nat × Nat
  | 0 => (1, wn)
  | k + 1 => ((odBN stp wn wof k).1 * stp (k + 1) (odBN stp wn wof k).2 (wof (k + 1)), wof (k + 1))
def odN (σ : sg) (c : Nat) : Nat := (odBN (spN σ) (gN σ 6) (wIn c) 6).1
theorem odBN_2 {stp : Nat → Nat → Nat → Nat} {wn : Nat} {wof : Nat → Nat} (h0 : wn < 3) (hw : ∀ j, wof j < 3) (k : Nat) : (odBN stp wn wof k).2 < 3 := by
  cases k with
  | zero => exact h0
  | succ k => exact hw _
theorem odB_N {σ : sg} (h4 : gN σ 4 < 10) (hIt : ∀ i, i < 9 → gA σ 2 i ≤ 10) {wn : Nat} {wof : Nat → Nat} (h0 : wn < 3) (hw : ∀ j, wof j < 3) (k : Nat) : odB (stS σ) wn wof k = (lN (odBN (spN σ) wn wof k).1, (odBN (spN σ) wn wof k).2) := by
  induction k with
  | zero => rfl
  | succ k ih =>
    simp only [odB, odBN, ih]
    rw [stS_N h4 hIt (k + 1) (odBN_2 h0 hw k) (hw _), lN_mul]
theorem odBN_le {σ : sg} (h4 : gN σ 4 < 10) (hIt : ∀ i, i < 9 → gA σ 2 i ≤ 10) {wn : Nat} {wof : Nat → Nat} (h0 : wn < 3) (hw : ∀ j, wof j < 3) (k : Nat) : (odBN (spN σ) wn wof k).1 ≤ 100 ^ k := by
  induction k with
  | zero => exact Nat.le_refl _
  | succ k ih =>
    simp only [odBN]
    rw [Nat.pow_succ]
    exact Nat.mul_le_mul ih (spN_le h4 hIt (k + 1) (odBN_2 h0 hw k) (hw _))
theorem odC_N {σ : sg} (h6 : gN σ 6 < 3) (h4 : gN σ 4 < 10) (hIt : ∀ i, i < 9 → gA σ 2 i ≤ 10) (c : Nat) : odC σ c = lN (odN σ c) := by
  unfold odC odN
  rw [odB_N h4 hIt h6 (fun j => wIn_lt c j)]
theorem odN_le {σ : sg} (h6 : gN σ 6 < 3) (h4 : gN σ 4 < 10) (hIt : ∀ i, i < 9 → gA σ 2 i ≤ 10) (c : Nat) : odN σ c ≤ 1000000000000 := odBN_le h4 hIt h6 (fun j => wIn_lt c j) 6
def wgBN (od : Nat → Nat) (sel : Nat → Prop) [DecidablePred sel] : Nat → Nat
  | 0 => 0
  | c + 1 => wgBN od sel c + (if sel c then od c else 0)
def wgN (σ : sg) (a : Nat) (w : Int32) : Nat := wgBN (odN σ) (fun c => w = -1 ∨ nI (wIn c a) = w) 729
theorem wgB_N {od : Nat → Int64} {oN : Nat → Nat} (h : ∀ c, od c = lN (oN c)) (sel : Nat → Prop) [DecidablePred sel] (n : Nat) : wgB od sel n = lN (wgBN oN sel n) := by
  induction n with
  | zero => rfl
  | succ n ih =>
    simp only [wgB, wgBN]
    rw [ih, h]
    split
    · exact lN_add _ _
    · exact lN_add _ 0
theorem wgBN_le {oN : Nat → Nat} {B : Nat} (h : ∀ c, oN c ≤ B) (sel : Nat → Prop) [DecidablePred sel] (n : Nat) : wgBN oN sel n ≤ n * B := by
  induction n with
  | zero => simp only [wgBN]; omega
  | succ n ih =>
    simp only [wgBN]
    rw [Nat.succ_mul]
    have := h n
    split <;> omega
theorem wgC_N {σ : sg} (h6 : gN σ 6 < 3) (h4 : gN σ 4 < 10) (hIt : ∀ i, i < 9 → gA σ 2 i ≤ 10) (a : Nat) (w : Int32) : wgC σ a w = lN (wgN σ a w) := by
  unfold wgC wgN
  exact wgB_N (odC_N h6 h4 hIt) _ _
theorem wgN_le {σ : sg} (h6 : gN σ 6 < 3) (h4 : gN σ 4 < 10) (hIt : ∀ i, i < 9 → gA σ 2 i ≤ 10) (a : Nat) (w : Int32) : wgN σ a w ≤ 729000000000000 := by
  unfold wgN
  exact wgBN_le (odN_le h6 h4 hIt) _ 729
theorem wgBN_s (od : Nat → Nat) (sel : Nat → Prop) [DecidablePred sel] (n : Nat) : wgBN od sel (n + 1) = wgBN od sel n + (if sel n then od n else 0) := rfl
theorem wgBN_3 {oN : Nat → Nat} {wf : Nat → Nat} (hw : ∀ c, wf c < 3) (n : Nat) : wgBN oN (fun c => (-1 : Int32) = -1 ∨ nI (wf c) = -1) n = wgBN oN (fun c => (0 : Int32) = -1 ∨ nI (wf c) = 0) n + wgBN oN (fun c => (1 : Int32) = -1 ∨ nI (wf c) = 1) n + wgBN oN (fun c => (2 : Int32) = -1 ∨ nI (wf c) = 2) n := by
  induction n with
  | zero => rfl
  | succ n ih =>
    rw [wgBN_s, wgBN_s, wgBN_s, wgBN_s, ih, if_pos (Or.inl rfl)]
    rcases (show wf n = 0 ∨ wf n = 1 ∨ wf n = 2 by have := hw n; omega) with e | e | e <;> rw [e]
    · rw [if_pos (by decide), if_neg (by decide), if_neg (by decide)]; omega
    · rw [if_neg (by decide), if_pos (by decide), if_neg (by decide)]; omega
    · rw [if_neg (by decide), if_neg (by decide), if_pos (by decide)]; omega
theorem wgN_3 (σ : sg) (a : Nat) : wgN σ a (-1) = wgN σ a 0 + wgN σ a 1 + wgN σ a 2 := by
  unfold wgN
  exact wgBN_3 (fun c => wIn_lt c a) 729
theorem F_lessN {x y : Nat} (hx : x < 2 ^ 63) (hy : y < 2 ^ 63) : F_less (lN x) (lN y) = lN (min x y) := by
  unfold F_less
  by_cases g : y ≤ x
  · rw [if_pos ((pk_lLE hy hx).mpr g), Nat.min_eq_right g]
  · rw [if_neg (fun q => g ((pk_lLE hy hx).mp q)), Nat.min_eq_left (by omega)]
def mtM (σ : sg) (r : Int32) : Nat := 0 + wgN σ 1 0 * fitN (gN σ 4) r 0 + wgN σ 1 1 * fitN (gN σ 4) r 1 + wgN σ 1 2 * fitN (gN σ 4) r 2
def mbM (σ : sg) (r : Int32) (c t : Nat) : Nat := min (c * mtM σ r) (t * wgN σ 1 1 * fitN (gN σ 4) r 1)
def gnN (σ : sg) (c t : Nat) : Nat := 10 * min (c * wgN σ 1 (-1)) (t * wgN σ 1 1) - mbM σ 0 c t - mbM σ 1 c t - mbM σ 2 c t
theorem mul3 {x a b c : Nat} (h : a + b + c = 10) : x * a + x * b + x * c = x * 10 := by rw [← Nat.mul_add, ← Nat.mul_add, h]
theorem gn_le {σ : sg} (h4 : gN σ 4 < 10) (c t : Nat) : mbM σ 0 c t + mbM σ 1 c t + mbM σ 2 c t ≤ 10 * min (c * wgN σ 1 (-1)) (t * wgN σ 1 1) := by
  have e1 : mtM σ 0 + mtM σ 1 + mtM σ 2 = wgN σ 1 (-1) * 10 := by
    rw [wgN_3]
    have a0 := mul3 (x := wgN σ 1 0) (fit10 h4 (w := 0) (by decide))
    have a1 := mul3 (x := wgN σ 1 1) (fit10 h4 (w := 1) (by decide))
    have a2 := mul3 (x := wgN σ 1 2) (fit10 h4 (w := 2) (by decide))
    unfold mtM
    omega
  have e2 : c * mtM σ 0 + c * mtM σ 1 + c * mtM σ 2 = 10 * (c * wgN σ 1 (-1)) := by
    rw [← Nat.mul_add, ← Nat.mul_add, e1, ← Nat.mul_assoc, Nat.mul_comm]
  have e3 := mul3 (x := t * wgN σ 1 1) (fit10 h4 (w := 1) (by decide))
  unfold mbM
  have m0 := Nat.min_le_left (c * mtM σ 0) (t * wgN σ 1 1 * fitN (gN σ 4) 0 1)
  have m1 := Nat.min_le_left (c * mtM σ 1) (t * wgN σ 1 1 * fitN (gN σ 4) 1 1)
  have m2 := Nat.min_le_left (c * mtM σ 2) (t * wgN σ 1 1 * fitN (gN σ 4) 2 1)
  have n0 := Nat.min_le_right (c * mtM σ 0) (t * wgN σ 1 1 * fitN (gN σ 4) 0 1)
  have n1 := Nat.min_le_right (c * mtM σ 1) (t * wgN σ 1 1 * fitN (gN σ 4) 1 1)
  have n2 := Nat.min_le_right (c * mtM σ 2) (t * wgN σ 1 1 * fitN (gN σ 4) 2 1)
  rcases Nat.le_total (c * wgN σ 1 (-1)) (t * wgN σ 1 1) with g | g
  · rw [Nat.min_eq_left g]; omega
  · rw [Nat.min_eq_right g]; omega
theorem mtM_le {σ : sg} (h6 : gN σ 6 < 3) (h4 : gN σ 4 < 10) (hIt : ∀ i, i < 9 → gA σ 2 i ≤ 10) (r : Int32) : mtM σ r ≤ 21870000000000000 := by
  have a0 := Nat.mul_le_mul (wgN_le h6 h4 hIt 1 0) (fitN_le h4 r 0)
  have a1 := Nat.mul_le_mul (wgN_le h6 h4 hIt 1 1) (fitN_le h4 r 1)
  have a2 := Nat.mul_le_mul (wgN_le h6 h4 hIt 1 2) (fitN_le h4 r 2)
  unfold mtM
  omega
noncomputable def mLikely (σ : sg) (k w p : Int32) : Int64 := cIf (inP 1 6 k ∧ inP 0 2 w) (cIf (inP 0 1 p) (if gN σ 0 = 0 then -103 else lwN (wgN σ k.toNatClampNeg w) (wgN σ 1 (-1)) p) (-102)) (-101)
noncomputable def mLook (σ : sg) (c t p : Int32) : Int64 := cIf (inP 1 9 c ∧ inP 1 9 t ∧ inP 0 1 p) (if gN σ 0 = 0 then -103 else lwN (gnN σ c.toNatClampNeg t.toNatClampNeg) (10 * wgN σ 1 (-1)) p) (-102)
set_option maxHeartbeats 4000000 in
set_option maxRecDepth 100000 in
theorem k_X12_likelyNow (l : Launch) (D : va_G) (b z : Nat) {h : qH} {m : Nat} {σ : sg} {s18 s35 : Int64} {s19 s20 s23 s24 : Int32} {f21 f22 : Nat → Int32} (hM : MdO h m σ s18 s19 s20 s23 s24 s35) (hR : MdR D h m σ f21 f22) (h6 : gN σ 6 < 3) (hn4 : gN σ 4 < 10) (hIt : ∀ i, i < 9 → gA σ 2 i ≤ 10) (hTot : 0 < wgN σ 1 (-1)) {k : Nat} (hk : k ≤ 6) (w p : Int32) : qMl l D b yX12_likelyNow cX12_likelyNow 4 3 74 [.ref (m), .int (nI (k)), .int (w), .int (p)] h z (fun r0 h' => r0 = lwN (wgN σ k w) (wgN σ 1 (-1)) p ∧ h' = h) := by
  refine q_l (L := [(0, .ref (m)), (1, .int (nI (k))), (2, .int (w)), (3, .int (p))]) (own := RX12) (by decide) rfl (Nat.le_of_ble_eq_true rfl) rfl ?_
  intro X C ret
  refine g_aload_n C 0 dX12_likelyNow_0 rfl rfl rfl ?_
  refine g_iload_n C 1 dX12_likelyNow_1 rfl rfl rfl ?_
  refine g_iload_n C 2 dX12_likelyNow_2 rfl rfl rfl ?_
  refine g_callVl C (As := [.int (nI (k)), .int (w)]) (q := (RX12, TX12, 36)) (k_X12_weightOf l D b z hM hR h6 (a := k) (by omega) (w)) hw_12_115 (hM) rfl (by decide) rfl rfl (Nat.le_of_ble_eq_true rfl) ⟨Nat.zero_le _, Nat.zero_le _⟩ dX12_likelyNow_3 (pc' := 6) rfl ?_
  rintro r1 h9 ⟨er, e9⟩
  subst h9; subst er
  refine g_topl (y := lN (wgN σ (k) (w))) (wgC_N h6 hn4 hIt _ _) ?_
  have hb6 := wgN_le h6 hn4 hIt (k) (w)
  refine g_aload_n C 0 dX12_likelyNow_6 rfl rfl rfl ?_
  refine g_iconst C (v := 1) dX12_likelyNow_7 (by decide) rfl ?_
  refine g_iconst C (v := -1) dX12_likelyNow_8 (by decide) rfl ?_
  refine g_callVl C (As := [.int (1), .int ((-1))]) (q := (RX12, TX12, 36)) (k_X12_weightOf l D b z hM hR h6 (a := 1) (by omega) ((-1))) hw_12_115 (hM) rfl (by decide) rfl rfl (Nat.le_of_ble_eq_true rfl) ⟨Nat.zero_le _, Nat.zero_le _⟩ dX12_likelyNow_9 (pc' := 12) rfl ?_
  rintro r2 h9 ⟨er, e9⟩
  subst h9; subst er
  refine g_topl (y := lN (wgN σ (1) ((-1)))) (wgC_N h6 hn4 hIt _ _) ?_
  have hb12 := wgN_le h6 hn4 hIt (1) ((-1))
  refine g_iload_n C 3 dX12_likelyNow_12 rfl rfl rfl ?_
  refine g_callSl C (As := [.long (lN (wgN σ (k) (w))), .long (lN (wgN σ (1) ((-1)))), .int (p)]) (k_X12_lowest l D b z h (x := wgN σ (k) (w)) (y := wgN σ (1) ((-1))) (by omega) (by omega) (by omega) (p)) hw_12_135 (by decide) rfl rfl (Nat.le_of_ble_eq_true rfl) ⟨Nat.zero_le _, Nat.zero_le _⟩ dX12_likelyNow_13 (pc' := 16) rfl ?_
  rintro r3 h9 ⟨er, e9⟩
  subst h9; subst er
  exact ret _ _ _ _ dX12_likelyNow_16 (⟨rfl, rfl⟩)
set_option maxHeartbeats 4000000 in
set_option maxRecDepth 100000 in
theorem k_X12_likely (l : Launch) (D : va_G) (b z : Nat) {h : qH} {m : Nat} {σ : sg} {s18 s35 : Int64} {s19 s20 s23 s24 : Int32} {f21 f22 : Nat → Int32} (hM : MdO h m σ s18 s19 s20 s23 s24 s35) (hR : MdR D h m σ f21 f22) (h6 : gN σ 6 < 3) (hn4 : gN σ 4 < 10) (hIt : ∀ i, i < 9 → gA σ 2 i ≤ 10) (h0 : gN σ 0 ≤ 1) (hTot : gN σ 0 = 1 → 0 < wgN σ 1 (-1)) (k w p : Int32) : qMl l D b yX12_likely cX12_likely 4 4 97 [.ref (m), .int (k), .int (w), .int (p)] h z (fun r0 h' => r0 = mLikely σ k w p ∧ h' = h) := by
  refine q_l (L := [(0, .ref (m)), (1, .int (k)), (2, .int (w)), (3, .int (p))]) (own := RX12) (by decide) rfl (Nat.le_of_ble_eq_true rfl) rfl ?_
  intro X C ret
  refine g_iload_n C 1 dX12_likely_0 rfl rfl rfl ?_
  refine g_iconst C (v := 1) dX12_likely_1 (by decide) rfl ?_
  refine g_bipush C (v := 6) dX12_likely_2 (by decide) rfl ?_
  refine g_callSi C (As := [.int (k), .int (1), .int (6)]) (k_X12_within l D b z h (k) (1) (6)) hw_12_56 (by decide) rfl rfl (Nat.le_of_ble_eq_true rfl) ⟨Nat.zero_le _, Nat.zero_le _⟩ dX12_likely_4 (pc' := 7) rfl ?_
  rintro r1 h9 ⟨⟨er, hp4⟩ | ⟨er, hp4⟩, e9⟩
  · subst h9; subst er
    have hp4 := (wit_in (lo := 1) (hi := 6) (x := k) (by decide) (by decide)).mp hp4
    have hp4_ := hp4
    obtain ⟨i, rfl, hp4a, hp4b⟩ := hp4_
    refine g_if_eq C dX12_likely_7 (tgt := 17) (by decide) (pc' := 10) rfl (fun c7 => absurd c7 (by decide)) (fun _ => ?_)
    refine g_iload_n C 2 dX12_likely_10 rfl rfl rfl ?_
    refine g_callSi C (As := [.int (w)]) (k_X12_isWeather l D b z h (w)) hw_12_101 (by decide) rfl rfl (Nat.le_of_ble_eq_true rfl) ⟨Nat.zero_le _, Nat.zero_le _⟩ dX12_likely_11 (pc' := 14) rfl ?_
    rintro r2 h9 ⟨⟨er, hp11⟩ | ⟨er, hp11⟩, e9⟩
    · subst h9; subst er
      have hp11_ := hp11
      obtain ⟨j, rfl, hp11a, hp11b⟩ := hp11_
      refine g_if_ne C dX12_likely_14 (tgt := 21) (by decide) (pc' := 17) rfl (fun _ => ?_) (fun c14 => absurd c14 (by decide))
      refine g_iload_n C 3 dX12_likely_21 rfl rfl rfl ?_
      refine g_iconst C (v := 0) dX12_likely_22 (by decide) rfl ?_
      refine g_iconst C (v := 1) dX12_likely_23 (by decide) rfl ?_
      refine g_callSi C (As := [.int (p), .int (0), .int (1)]) (k_X12_within l D b z h (p) (0) (1)) hw_12_56 (by decide) rfl rfl (Nat.le_of_ble_eq_true rfl) ⟨Nat.zero_le _, Nat.zero_le _⟩ dX12_likely_24 (pc' := 27) rfl ?_
      rintro r3 h9 ⟨⟨er, hp24⟩ | ⟨er, hp24⟩, e9⟩
      · subst h9; subst er
        have hp24 := (wit_in (lo := 0) (hi := 1) (x := p) (by decide) (by decide)).mp hp24
        refine g_if_ne C dX12_likely_27 (tgt := 34) (by decide) (pc' := 30) rfl (fun _ => ?_) (fun c27 => absurd c27 (by decide))
        refine g_aload_n C 0 dX12_likely_34 rfl rfl rfl ?_
        refine gf_12_82 C (hM) (v := .int (nI (gN σ 0))) rfl dX12_likely_35 rfl ?_
        refine g_if_eq C dX12_likely_38 (tgt := 51) (by decide) (pc' := 41) rfl ?_ ?_
        · intro c38
          replace c38 := (nI_eq (a := gN σ 0) (b := 0) (by omega) (by omega)).mp c38
          refine g_ldc2 C kl_12_147 dX12_likely_51 rfl ?_
          exact ret _ _ _ _ dX12_likely_54 (⟨by unfold mLikely; rw [cIf_t ⟨hp4, hp11⟩, cIf_t hp24, if_pos c38], rfl⟩)
        · intro c38
          replace c38 := (not_congr (nI_eq (a := gN σ 0) (b := 0) (by omega) (by omega))).mp c38
          refine g_aload_n C 0 dX12_likely_41 rfl rfl rfl ?_
          refine g_iload_n C 1 dX12_likely_42 rfl rfl rfl ?_
          refine g_iload_n C 2 dX12_likely_43 rfl rfl rfl ?_
          refine g_iload_n C 3 dX12_likely_44 rfl rfl rfl ?_
          refine g_callVl C (As := [.int (nI (i)), .int (nI (j)), .int (p)]) (q := (RX12, TX12, 36)) (k_X12_likelyNow l D b z hM hR h6 hn4 hIt (hTot (by omega)) (k := i) (by omega) (nI (j)) (p)) hw_12_143 (hM) rfl (by decide) rfl rfl (Nat.le_of_ble_eq_true rfl) ⟨Nat.zero_le _, Nat.zero_le _⟩ dX12_likely_45 (pc' := 48) rfl ?_
          rintro r4 h9 ⟨er, e9⟩
          subst h9; subst er
          refine g_goto C dX12_likely_48 (tgt := 54) (by decide) ?_
          exact ret _ _ _ _ dX12_likely_54 (⟨by unfold mLikely; rw [cIf_t ⟨hp4, hp11⟩, cIf_t hp24, if_neg c38, nIc (by omega)], rfl⟩)
      · subst h9; subst er
        have hp24 := (not_congr (wit_in (lo := 0) (hi := 1) (x := p) (by decide) (by decide))).mp hp24
        refine g_if_ne C dX12_likely_27 (tgt := 34) (by decide) (pc' := 30) rfl (fun c27 => absurd (by decide) c27) (fun _ => ?_)
        refine g_ldc2 C kl_12_141 dX12_likely_30 rfl ?_
        exact ret _ _ _ _ dX12_likely_33 (⟨by unfold mLikely; rw [cIf_t ⟨hp4, hp11⟩, cIf_f hp24], rfl⟩)
    · subst h9; subst er
      refine g_if_ne C dX12_likely_14 (tgt := 21) (by decide) (pc' := 17) rfl (fun c14 => absurd (by decide) c14) (fun _ => ?_)
      refine g_ldc2 C kl_12_139 dX12_likely_17 rfl ?_
      exact ret _ _ _ _ dX12_likely_20 (⟨by unfold mLikely; rw [cIf_f (fun g => hp11 g.2)], rfl⟩)
  · subst h9; subst er
    have hp4 := (not_congr (wit_in (lo := 1) (hi := 6) (x := k) (by decide) (by decide))).mp hp4
    refine g_if_eq C dX12_likely_7 (tgt := 17) (by decide) (pc' := 10) rfl (fun _ => ?_) (fun c7 => absurd (by decide) c7)
    refine g_ldc2 C kl_12_139 dX12_likely_17 rfl ?_
    exact ret _ _ _ _ dX12_likely_20 (⟨by unfold mLikely; rw [cIf_f (fun g => hp4 g.1)], rfl⟩)
set_option maxHeartbeats 4000000 in
set_option maxRecDepth 100000 in
theorem k_X12_lookNow (l : Launch) (D : va_G) (b z : Nat) {h : qH} {m : Nat} {σ : sg} {s18 s35 : Int64} {s19 s20 s23 s24 : Int32} {f21 f22 : Nat → Int32} (hM : MdO h m σ s18 s19 s20 s23 s24 s35) (hR : MdR D h m σ f21 f22) (h6 : gN σ 6 < 3) (hn4 : gN σ 4 < 10) (hIt : ∀ i, i < 9 → gA σ 2 i ≤ 10) (hTot : 0 < wgN σ 1 (-1)) {c t : Nat} (hc : c ≤ 9) (ht : t ≤ 9) (p : Int32) : qMl l D b yX12_lookNow cX12_lookNow 14 3 74 [.ref (m), .int (nI (c)), .int (nI (t)), .int (p)] h z (fun r0 h' => r0 = lwN (gnN σ c t) (10 * wgN σ 1 (-1)) p ∧ h' = h) := by
  refine q_l (L := [(0, .ref (m)), (1, .int (nI (c))), (2, .int (nI (t))), (3, .int (p))]) (own := RX12) (by decide) rfl (Nat.le_of_ble_eq_true rfl) rfl ?_
  intro X C ret
  have hgn := gn_le (σ := σ) hn4 c t
  refine g_aload_n C 0 dX12_lookNow_0 rfl rfl rfl ?_
  refine g_iconst C (v := 1) dX12_lookNow_1 (by decide) rfl ?_
  refine g_iconst C (v := -1) dX12_lookNow_2 (by decide) rfl ?_
  refine g_callVl C (As := [.int (1), .int ((-1))]) (q := (RX12, TX12, 36)) (k_X12_weightOf l D b z hM hR h6 (a := 1) (by omega) ((-1))) hw_12_115 (hM) rfl (by decide) rfl rfl (Nat.le_of_ble_eq_true rfl) ⟨Nat.zero_le _, Nat.zero_le _⟩ dX12_lookNow_3 (pc' := 6) rfl ?_
  rintro r1 h9 ⟨er, e9⟩
  subst h9; subst er
  refine g_topl (y := lN (wgN σ (1) ((-1)))) (wgC_N h6 hn4 hIt _ _) ?_
  have hb6 := wgN_le h6 hn4 hIt (1) ((-1))
  refine g_lstore C ([(4, .long (lN (wgN σ (1) ((-1))))), (0, .ref (m)), (1, .int (nI (c))), (2, .int (nI (t))), (3, .int (p))]) dX12_lookNow_6 (by decide) rfl rfl ?_
  refine g_aload_n C 1 dX12_lookNow_8 rfl rfl rfl ?_
  refine g_iconst C (v := 1) dX12_lookNow_9 (by decide) rfl ?_
  refine g_iconst C (v := 1) dX12_lookNow_10 (by decide) rfl ?_
  refine g_callVl C (As := [.int (1), .int (1)]) (q := (RX12, TX12, 36)) (k_X12_weightOf l D b z hM hR h6 (a := 1) (by omega) (1)) hw_12_115 (hM) rfl (by decide) rfl rfl (Nat.le_of_ble_eq_true rfl) ⟨Nat.zero_le _, Nat.zero_le _⟩ dX12_lookNow_11 (pc' := 14) rfl ?_
  rintro r2 h9 ⟨er, e9⟩
  subst h9; subst er
  refine g_topl (y := lN (wgN σ (1) (1))) (wgC_N h6 hn4 hIt _ _) ?_
  have hb14 := wgN_le h6 hn4 hIt (1) (1)
  refine g_lstore C ([(6, .long (lN (wgN σ (1) (1)))), (4, .long (lN (wgN σ (1) ((-1))))), (0, .ref (m)), (1, .int (nI (c))), (2, .int (nI (t))), (3, .int (p))]) dX12_lookNow_14 (by decide) rfl rfl ?_
  refine g_ldc2 C kl_12_160 dX12_lookNow_16 rfl ?_
  refine g_topl (y := lN 10) rfl ?_
  refine g_iload_n C 3 dX12_lookNow_19 rfl rfl rfl ?_
  refine g_i2l C dX12_lookNow_20 rfl ?_
  refine g_topl (y := lN (c)) (lN_ofI (by omega)) ?_
  refine g_lload C 1 dX12_lookNow_21 rfl rfl ?_
  refine g_lmul C dX12_lookNow_23 rfl ?_
  refine g_topl (y := lN (c * wgN σ (1) ((-1)))) (lN_mul _ _) ?_
  refine g_iload_n C 4 dX12_lookNow_24 rfl rfl rfl ?_
  refine g_i2l C dX12_lookNow_25 rfl ?_
  refine g_topl (y := lN (t)) (lN_ofI (by omega)) ?_
  refine g_lload C 0 dX12_lookNow_26 rfl rfl ?_
  refine g_lmul C dX12_lookNow_28 rfl ?_
  refine g_topl (y := lN (t * wgN σ (1) (1))) (lN_mul _ _) ?_
  refine g_callSl C (As := [.long (lN ((c * wgN σ (1) ((-1))))), .long (lN ((t * wgN σ (1) (1))))]) (k_X12_less l D b z h (lN ((c * wgN σ (1) ((-1))))) (lN ((t * wgN σ (1) (1))))) hw_12_162 (by decide) rfl rfl (Nat.le_of_ble_eq_true rfl) ⟨Nat.zero_le _, Nat.zero_le _⟩ dX12_lookNow_29 (pc' := 32) rfl ?_
  rintro r3 h9 ⟨er, e9⟩
  subst h9; subst er
  refine g_topl (y := lN (min (c * wgN σ 1 (-1)) (t * wgN σ 1 1))) (F_lessN (x := c * wgN σ 1 (-1)) (y := t * wgN σ 1 1) (by have := Nat.mul_le_mul hc (wgN_le h6 hn4 hIt 1 (-1)); omega) (by have := Nat.mul_le_mul ht (wgN_le h6 hn4 hIt 1 1); omega)) ?_
  refine g_lmul C dX12_lookNow_32 rfl ?_
  refine g_topl (y := lN (10 * min (c * wgN σ 1 (-1)) (t * wgN σ 1 1))) (lN_mul _ _) ?_
  refine g_lstore C ([(8, .long (lN (10 * min (c * wgN σ 1 (-1)) (t * wgN σ 1 1)))), (6, .long (lN (wgN σ (1) (1)))), (4, .long (lN (wgN σ (1) ((-1))))), (0, .ref (m)), (1, .int (nI (c))), (2, .int (nI (t))), (3, .int (p))]) dX12_lookNow_33 (by decide) rfl rfl ?_
  refine g_iconst C (v := 0) dX12_lookNow_35 (by decide) rfl ?_
  refine g_istore C ([(10, .int (0)), (8, .long (lN (10 * min (c * wgN σ 1 (-1)) (t * wgN σ 1 1)))), (6, .long (lN (wgN σ (1) (1)))), (4, .long (lN (wgN σ (1) ((-1))))), (0, .ref (m)), (1, .int (nI (c))), (2, .int (nI (t))), (3, .int (p))]) dX12_lookNow_36 (by decide) rfl rfl ?_
  refine g_iload C 0 dX12_lookNow_38 rfl rfl ?_
  refine g_iconst C (v := 3) dX12_lookNow_40 (by decide) rfl ?_
  refine g_icmp_ge C dX12_lookNow_41 (tgt := 117) (by decide) (pc' := 44) rfl (fun c41 => absurd c41 (by decide)) (fun _ => ?_)
  refine g_lconst C (v := 0) dX12_lookNow_44 (by decide) rfl ?_
  refine g_topl (y := lN 0) rfl ?_
  refine g_lstore C ([(11, .long (lN (0))), (10, .int (0)), (8, .long (lN (10 * min (c * wgN σ 1 (-1)) (t * wgN σ 1 1)))), (6, .long (lN (wgN σ (1) (1)))), (4, .long (lN (wgN σ (1) ((-1))))), (0, .ref (m)), (1, .int (nI (c))), (2, .int (nI (t))), (3, .int (p))]) dX12_lookNow_45 (by decide) rfl rfl ?_
  refine g_iconst C (v := 0) dX12_lookNow_47 (by decide) rfl ?_
  refine g_istore C ([(13, .int (0)), (11, .long (lN (0))), (10, .int (0)), (8, .long (lN (10 * min (c * wgN σ 1 (-1)) (t * wgN σ 1 1)))), (6, .long (lN (wgN σ (1) (1)))), (4, .long (lN (wgN σ (1) ((-1))))), (0, .ref (m)), (1, .int (nI (c))), (2, .int (nI (t))), (3, .int (p))]) dX12_lookNow_48 (by decide) rfl rfl ?_
  refine g_iload C 0 dX12_lookNow_50 rfl rfl ?_
  refine g_iconst C (v := 3) dX12_lookNow_52 (by decide) rfl ?_
  refine g_icmp_ge C dX12_lookNow_53 (tgt := 84) (by decide) (pc' := 56) rfl (fun c53 => absurd c53 (by decide)) (fun _ => ?_)
  refine g_lload C 1 dX12_lookNow_56 rfl rfl ?_
  refine g_aload_n C 6 dX12_lookNow_58 rfl rfl rfl ?_
  refine g_iconst C (v := 1) dX12_lookNow_59 (by decide) rfl ?_
  refine g_iload C 0 dX12_lookNow_60 rfl rfl ?_
  refine g_callVl C (As := [.int (1), .int (0)]) (q := (RX12, TX12, 36)) (k_X12_weightOf l D b z hM hR h6 (a := 1) (by omega) (0)) hw_12_115 (hM) rfl (by decide) rfl rfl (Nat.le_of_ble_eq_true rfl) ⟨Nat.zero_le _, Nat.zero_le _⟩ dX12_lookNow_62 (pc' := 65) rfl ?_
  rintro r4 h9 ⟨er, e9⟩
  subst h9; subst er
  refine g_topl (y := lN (wgN σ (1) (0))) (wgC_N h6 hn4 hIt _ _) ?_
  have hb65 := wgN_le h6 hn4 hIt (1) (0)
  refine g_aload_n C 6 dX12_lookNow_65 rfl rfl rfl ?_
  refine g_iload C 2 dX12_lookNow_66 rfl rfl ?_
  refine g_iload C 0 dX12_lookNow_68 rfl rfl ?_
  refine g_callVi C (As := [.int (0), .int (0)]) (q := (RX12, TX12, 36)) (k_X12_tells l D b z hM hR (0) (w := 0) (by decide) (by decide)) hw_12_108 (hM) rfl (by decide) rfl rfl (Nat.le_of_ble_eq_true rfl) ⟨Nat.zero_le _, Nat.zero_le _⟩ dX12_lookNow_70 (pc' := 73) rfl ?_
  rintro r5 h9 ⟨er, e9⟩
  subst h9; subst er
  refine g_topi (y := nI (fitN (gN σ 4) 0 0)) (F_fitN hn4 _ _) ?_
  have hf73 := fitN_le hn4 0 0
  refine g_i2l C dX12_lookNow_73 rfl ?_
  refine g_topl (y := lN (fitN (gN σ 4) 0 0)) (lN_ofI (by omega)) ?_
  refine g_lmul C dX12_lookNow_74 rfl ?_
  refine g_topl (y := lN (wgN σ (1) (0) * fitN (gN σ 4) 0 0)) (lN_mul _ _) ?_
  refine g_ladd C dX12_lookNow_75 rfl ?_
  refine g_topl (y := lN (0 + (wgN σ (1) (0) * fitN (gN σ 4) 0 0))) (lN_add _ _) ?_
  refine g_lstore C ([(11, .long (lN ((0 + (wgN σ (1) (0) * fitN (gN σ 4) 0 0))))), (13, .int (0)), (10, .int (0)), (8, .long (lN (10 * min (c * wgN σ 1 (-1)) (t * wgN σ 1 1)))), (6, .long (lN (wgN σ (1) (1)))), (4, .long (lN (wgN σ (1) ((-1))))), (0, .ref (m)), (1, .int (nI (c))), (2, .int (nI (t))), (3, .int (p))]) dX12_lookNow_76 (by decide) rfl rfl ?_
  refine g_iinc C (v := 1) 1 ([(13, .int (1)), (11, .long (lN ((0 + (wgN σ (1) (0) * fitN (gN σ 4) 0 0))))), (10, .int (0)), (8, .long (lN (10 * min (c * wgN σ 1 (-1)) (t * wgN σ 1 1)))), (6, .long (lN (wgN σ (1) (1)))), (4, .long (lN (wgN σ (1) ((-1))))), (0, .ref (m)), (1, .int (nI (c))), (2, .int (nI (t))), (3, .int (p))]) dX12_lookNow_78 rfl (by decide) (by decide) rfl rfl ?_
  refine g_goto C dX12_lookNow_81 (tgt := 50) (by decide) ?_
  refine g_iload C 0 dX12_lookNow_50 rfl rfl ?_
  refine g_iconst C (v := 3) dX12_lookNow_52 (by decide) rfl ?_
  refine g_icmp_ge C dX12_lookNow_53 (tgt := 84) (by decide) (pc' := 56) rfl (fun c53 => absurd c53 (by decide)) (fun _ => ?_)
  refine g_lload C 1 dX12_lookNow_56 rfl rfl ?_
  refine g_aload_n C 6 dX12_lookNow_58 rfl rfl rfl ?_
  refine g_iconst C (v := 1) dX12_lookNow_59 (by decide) rfl ?_
  refine g_iload C 0 dX12_lookNow_60 rfl rfl ?_
  refine g_callVl C (As := [.int (1), .int (1)]) (q := (RX12, TX12, 36)) (k_X12_weightOf l D b z hM hR h6 (a := 1) (by omega) (1)) hw_12_115 (hM) rfl (by decide) rfl rfl (Nat.le_of_ble_eq_true rfl) ⟨Nat.zero_le _, Nat.zero_le _⟩ dX12_lookNow_62 (pc' := 65) rfl ?_
  rintro r6 h9 ⟨er, e9⟩
  subst h9; subst er
  refine g_topl (y := lN (wgN σ (1) (1))) (wgC_N h6 hn4 hIt _ _) ?_
  have hb65 := wgN_le h6 hn4 hIt (1) (1)
  refine g_aload_n C 6 dX12_lookNow_65 rfl rfl rfl ?_
  refine g_iload C 2 dX12_lookNow_66 rfl rfl ?_
  refine g_iload C 0 dX12_lookNow_68 rfl rfl ?_
  refine g_callVi C (As := [.int (0), .int (1)]) (q := (RX12, TX12, 36)) (k_X12_tells l D b z hM hR (0) (w := 1) (by decide) (by decide)) hw_12_108 (hM) rfl (by decide) rfl rfl (Nat.le_of_ble_eq_true rfl) ⟨Nat.zero_le _, Nat.zero_le _⟩ dX12_lookNow_70 (pc' := 73) rfl ?_
  rintro r7 h9 ⟨er, e9⟩
  subst h9; subst er
  refine g_topi (y := nI (fitN (gN σ 4) 0 1)) (F_fitN hn4 _ _) ?_
  have hf73 := fitN_le hn4 0 1
  refine g_i2l C dX12_lookNow_73 rfl ?_
  refine g_topl (y := lN (fitN (gN σ 4) 0 1)) (lN_ofI (by omega)) ?_
  refine g_lmul C dX12_lookNow_74 rfl ?_
  refine g_topl (y := lN (wgN σ (1) (1) * fitN (gN σ 4) 0 1)) (lN_mul _ _) ?_
  refine g_ladd C dX12_lookNow_75 rfl ?_
  refine g_topl (y := lN ((0 + (wgN σ (1) (0) * fitN (gN σ 4) 0 0)) + (wgN σ (1) (1) * fitN (gN σ 4) 0 1))) (lN_add _ _) ?_
  refine g_lstore C ([(11, .long (lN (((0 + (wgN σ (1) (0) * fitN (gN σ 4) 0 0)) + (wgN σ (1) (1) * fitN (gN σ 4) 0 1))))), (13, .int (1)), (10, .int (0)), (8, .long (lN (10 * min (c * wgN σ 1 (-1)) (t * wgN σ 1 1)))), (6, .long (lN (wgN σ (1) (1)))), (4, .long (lN (wgN σ (1) ((-1))))), (0, .ref (m)), (1, .int (nI (c))), (2, .int (nI (t))), (3, .int (p))]) dX12_lookNow_76 (by decide) rfl rfl ?_
  refine g_iinc C (v := 2) 1 ([(13, .int (2)), (11, .long (lN (((0 + (wgN σ (1) (0) * fitN (gN σ 4) 0 0)) + (wgN σ (1) (1) * fitN (gN σ 4) 0 1))))), (10, .int (0)), (8, .long (lN (10 * min (c * wgN σ 1 (-1)) (t * wgN σ 1 1)))), (6, .long (lN (wgN σ (1) (1)))), (4, .long (lN (wgN σ (1) ((-1))))), (0, .ref (m)), (1, .int (nI (c))), (2, .int (nI (t))), (3, .int (p))]) dX12_lookNow_78 rfl (by decide) (by decide) rfl rfl ?_
  refine g_goto C dX12_lookNow_81 (tgt := 50) (by decide) ?_
  refine g_iload C 0 dX12_lookNow_50 rfl rfl ?_
  refine g_iconst C (v := 3) dX12_lookNow_52 (by decide) rfl ?_
  refine g_icmp_ge C dX12_lookNow_53 (tgt := 84) (by decide) (pc' := 56) rfl (fun c53 => absurd c53 (by decide)) (fun _ => ?_)
  refine g_lload C 1 dX12_lookNow_56 rfl rfl ?_
  refine g_aload_n C 6 dX12_lookNow_58 rfl rfl rfl ?_
  refine g_iconst C (v := 1) dX12_lookNow_59 (by decide) rfl ?_
  refine g_iload C 0 dX12_lookNow_60 rfl rfl ?_
  refine g_callVl C (As := [.int (1), .int (2)]) (q := (RX12, TX12, 36)) (k_X12_weightOf l D b z hM hR h6 (a := 1) (by omega) (2)) hw_12_115 (hM) rfl (by decide) rfl rfl (Nat.le_of_ble_eq_true rfl) ⟨Nat.zero_le _, Nat.zero_le _⟩ dX12_lookNow_62 (pc' := 65) rfl ?_
  rintro r8 h9 ⟨er, e9⟩
  subst h9; subst er
  refine g_topl (y := lN (wgN σ (1) (2))) (wgC_N h6 hn4 hIt _ _) ?_
  have hb65 := wgN_le h6 hn4 hIt (1) (2)
  refine g_aload_n C 6 dX12_lookNow_65 rfl rfl rfl ?_
  refine g_iload C 2 dX12_lookNow_66 rfl rfl ?_
  refine g_iload C 0 dX12_lookNow_68 rfl rfl ?_
  refine g_callVi C (As := [.int (0), .int (2)]) (q := (RX12, TX12, 36)) (k_X12_tells l D b z hM hR (0) (w := 2) (by decide) (by decide)) hw_12_108 (hM) rfl (by decide) rfl rfl (Nat.le_of_ble_eq_true rfl) ⟨Nat.zero_le _, Nat.zero_le _⟩ dX12_lookNow_70 (pc' := 73) rfl ?_
  rintro r9 h9 ⟨er, e9⟩
  subst h9; subst er
  refine g_topi (y := nI (fitN (gN σ 4) 0 2)) (F_fitN hn4 _ _) ?_
  have hf73 := fitN_le hn4 0 2
  refine g_i2l C dX12_lookNow_73 rfl ?_
  refine g_topl (y := lN (fitN (gN σ 4) 0 2)) (lN_ofI (by omega)) ?_
  refine g_lmul C dX12_lookNow_74 rfl ?_
  refine g_topl (y := lN (wgN σ (1) (2) * fitN (gN σ 4) 0 2)) (lN_mul _ _) ?_
  refine g_ladd C dX12_lookNow_75 rfl ?_
  refine g_topl (y := lN (((0 + (wgN σ (1) (0) * fitN (gN σ 4) 0 0)) + (wgN σ (1) (1) * fitN (gN σ 4) 0 1)) + (wgN σ (1) (2) * fitN (gN σ 4) 0 2))) (lN_add _ _) ?_
  refine g_lstore C ([(11, .long (lN ((((0 + (wgN σ (1) (0) * fitN (gN σ 4) 0 0)) + (wgN σ (1) (1) * fitN (gN σ 4) 0 1)) + (wgN σ (1) (2) * fitN (gN σ 4) 0 2))))), (13, .int (2)), (10, .int (0)), (8, .long (lN (10 * min (c * wgN σ 1 (-1)) (t * wgN σ 1 1)))), (6, .long (lN (wgN σ (1) (1)))), (4, .long (lN (wgN σ (1) ((-1))))), (0, .ref (m)), (1, .int (nI (c))), (2, .int (nI (t))), (3, .int (p))]) dX12_lookNow_76 (by decide) rfl rfl ?_
  refine g_iinc C (v := 3) 1 ([(13, .int (3)), (11, .long (lN ((((0 + (wgN σ (1) (0) * fitN (gN σ 4) 0 0)) + (wgN σ (1) (1) * fitN (gN σ 4) 0 1)) + (wgN σ (1) (2) * fitN (gN σ 4) 0 2))))), (10, .int (0)), (8, .long (lN (10 * min (c * wgN σ 1 (-1)) (t * wgN σ 1 1)))), (6, .long (lN (wgN σ (1) (1)))), (4, .long (lN (wgN σ (1) ((-1))))), (0, .ref (m)), (1, .int (nI (c))), (2, .int (nI (t))), (3, .int (p))]) dX12_lookNow_78 rfl (by decide) (by decide) rfl rfl ?_
  refine g_goto C dX12_lookNow_81 (tgt := 50) (by decide) ?_
  refine g_iload C 0 dX12_lookNow_50 rfl rfl ?_
  refine g_iconst C (v := 3) dX12_lookNow_52 (by decide) rfl ?_
  refine g_icmp_ge C dX12_lookNow_53 (tgt := 84) (by decide) (pc' := 56) rfl (fun _ => ?_) (fun c53 => absurd (by decide) c53)
  refine g_lload C 3 dX12_lookNow_84 rfl rfl ?_
  refine g_iload_n C 7 dX12_lookNow_86 rfl rfl rfl ?_
  refine g_i2l C dX12_lookNow_87 rfl ?_
  refine g_topl (y := lN (c)) (lN_ofI (by omega)) ?_
  refine g_lload C 1 dX12_lookNow_88 rfl rfl ?_
  refine g_lmul C dX12_lookNow_90 rfl ?_
  refine g_topl (y := lN (c * (((0 + (wgN σ (1) (0) * fitN (gN σ 4) 0 0)) + (wgN σ (1) (1) * fitN (gN σ 4) 0 1)) + (wgN σ (1) (2) * fitN (gN σ 4) 0 2)))) (lN_mul _ _) ?_
  refine g_iload_n C 8 dX12_lookNow_91 rfl rfl rfl ?_
  refine g_i2l C dX12_lookNow_92 rfl ?_
  refine g_topl (y := lN (t)) (lN_ofI (by omega)) ?_
  refine g_lload C 4 dX12_lookNow_93 rfl rfl ?_
  refine g_lmul C dX12_lookNow_95 rfl ?_
  refine g_topl (y := lN (t * wgN σ (1) (1))) (lN_mul _ _) ?_
  refine g_aload_n C 6 dX12_lookNow_96 rfl rfl rfl ?_
  refine g_iload C 2 dX12_lookNow_97 rfl rfl ?_
  refine g_iconst C (v := 1) dX12_lookNow_99 (by decide) rfl ?_
  refine g_callVi C (As := [.int (0), .int (1)]) (q := (RX12, TX12, 36)) (k_X12_tells l D b z hM hR (0) (w := 1) (by decide) (by decide)) hw_12_108 (hM) rfl (by decide) rfl rfl (Nat.le_of_ble_eq_true rfl) ⟨Nat.zero_le _, Nat.zero_le _⟩ dX12_lookNow_100 (pc' := 103) rfl ?_
  rintro r10 h9 ⟨er, e9⟩
  subst h9; subst er
  refine g_topi (y := nI (fitN (gN σ 4) 0 1)) (F_fitN hn4 _ _) ?_
  have hf103 := fitN_le hn4 0 1
  refine g_i2l C dX12_lookNow_103 rfl ?_
  refine g_topl (y := lN (fitN (gN σ 4) 0 1)) (lN_ofI (by omega)) ?_
  refine g_lmul C dX12_lookNow_104 rfl ?_
  refine g_topl (y := lN ((t * wgN σ (1) (1)) * fitN (gN σ 4) 0 1)) (lN_mul _ _) ?_
  refine g_callSl C (As := [.long (lN ((c * (((0 + (wgN σ (1) (0) * fitN (gN σ 4) 0 0)) + (wgN σ (1) (1) * fitN (gN σ 4) 0 1)) + (wgN σ (1) (2) * fitN (gN σ 4) 0 2))))), .long (lN (((t * wgN σ (1) (1)) * fitN (gN σ 4) 0 1)))]) (k_X12_less l D b z h (lN ((c * (((0 + (wgN σ (1) (0) * fitN (gN σ 4) 0 0)) + (wgN σ (1) (1) * fitN (gN σ 4) 0 1)) + (wgN σ (1) (2) * fitN (gN σ 4) 0 2))))) (lN (((t * wgN σ (1) (1)) * fitN (gN σ 4) 0 1)))) hw_12_162 (by decide) rfl rfl (Nat.le_of_ble_eq_true rfl) ⟨Nat.zero_le _, Nat.zero_le _⟩ dX12_lookNow_105 (pc' := 108) rfl ?_
  rintro r11 h9 ⟨er, e9⟩
  subst h9; subst er
  refine g_topl (y := lN (mbM σ 0 c t)) (F_lessN (x := c * mtM σ 0) (y := t * wgN σ 1 1 * fitN (gN σ 4) 0 1) (by have := Nat.mul_le_mul hc (mtM_le h6 hn4 hIt 0); omega) (by have := Nat.mul_le_mul (Nat.mul_le_mul ht (wgN_le h6 hn4 hIt 1 1)) (fitN_le hn4 0 1); omega)) ?_
  refine g_lsub C dX12_lookNow_108 rfl ?_
  refine g_topl (y := lN (10 * min (c * wgN σ 1 (-1)) (t * wgN σ 1 1) - mbM σ 0 c t)) (lN_sub (by omega)) ?_
  refine g_lstore C ([(8, .long (lN (10 * min (c * wgN σ 1 (-1)) (t * wgN σ 1 1) - mbM σ 0 c t))), (13, .int (3)), (11, .long (lN ((((0 + (wgN σ (1) (0) * fitN (gN σ 4) 0 0)) + (wgN σ (1) (1) * fitN (gN σ 4) 0 1)) + (wgN σ (1) (2) * fitN (gN σ 4) 0 2))))), (10, .int (0)), (6, .long (lN (wgN σ (1) (1)))), (4, .long (lN (wgN σ (1) ((-1))))), (0, .ref (m)), (1, .int (nI (c))), (2, .int (nI (t))), (3, .int (p))]) dX12_lookNow_109 (by decide) rfl rfl ?_
  refine g_iinc C (v := 1) 3 ([(10, .int (1)), (8, .long (lN (10 * min (c * wgN σ 1 (-1)) (t * wgN σ 1 1) - mbM σ 0 c t))), (13, .int (3)), (11, .long (lN ((((0 + (wgN σ (1) (0) * fitN (gN σ 4) 0 0)) + (wgN σ (1) (1) * fitN (gN σ 4) 0 1)) + (wgN σ (1) (2) * fitN (gN σ 4) 0 2))))), (6, .long (lN (wgN σ (1) (1)))), (4, .long (lN (wgN σ (1) ((-1))))), (0, .ref (m)), (1, .int (nI (c))), (2, .int (nI (t))), (3, .int (p))]) dX12_lookNow_111 rfl (by decide) (by decide) rfl rfl ?_
  refine g_goto C dX12_lookNow_114 (tgt := 38) (by decide) ?_
  refine g_iload C 0 dX12_lookNow_38 rfl rfl ?_
  refine g_iconst C (v := 3) dX12_lookNow_40 (by decide) rfl ?_
  refine g_icmp_ge C dX12_lookNow_41 (tgt := 117) (by decide) (pc' := 44) rfl (fun c41 => absurd c41 (by decide)) (fun _ => ?_)
  refine g_lconst C (v := 0) dX12_lookNow_44 (by decide) rfl ?_
  refine g_topl (y := lN 0) rfl ?_
  refine g_lstore C ([(11, .long (lN (0))), (10, .int (1)), (8, .long (lN (10 * min (c * wgN σ 1 (-1)) (t * wgN σ 1 1) - mbM σ 0 c t))), (13, .int (3)), (6, .long (lN (wgN σ (1) (1)))), (4, .long (lN (wgN σ (1) ((-1))))), (0, .ref (m)), (1, .int (nI (c))), (2, .int (nI (t))), (3, .int (p))]) dX12_lookNow_45 (by decide) rfl rfl ?_
  refine g_iconst C (v := 0) dX12_lookNow_47 (by decide) rfl ?_
  refine g_istore C ([(13, .int (0)), (11, .long (lN (0))), (10, .int (1)), (8, .long (lN (10 * min (c * wgN σ 1 (-1)) (t * wgN σ 1 1) - mbM σ 0 c t))), (6, .long (lN (wgN σ (1) (1)))), (4, .long (lN (wgN σ (1) ((-1))))), (0, .ref (m)), (1, .int (nI (c))), (2, .int (nI (t))), (3, .int (p))]) dX12_lookNow_48 (by decide) rfl rfl ?_
  refine g_iload C 0 dX12_lookNow_50 rfl rfl ?_
  refine g_iconst C (v := 3) dX12_lookNow_52 (by decide) rfl ?_
  refine g_icmp_ge C dX12_lookNow_53 (tgt := 84) (by decide) (pc' := 56) rfl (fun c53 => absurd c53 (by decide)) (fun _ => ?_)
  refine g_lload C 1 dX12_lookNow_56 rfl rfl ?_
  refine g_aload_n C 6 dX12_lookNow_58 rfl rfl rfl ?_
  refine g_iconst C (v := 1) dX12_lookNow_59 (by decide) rfl ?_
  refine g_iload C 0 dX12_lookNow_60 rfl rfl ?_
  refine g_callVl C (As := [.int (1), .int (0)]) (q := (RX12, TX12, 36)) (k_X12_weightOf l D b z hM hR h6 (a := 1) (by omega) (0)) hw_12_115 (hM) rfl (by decide) rfl rfl (Nat.le_of_ble_eq_true rfl) ⟨Nat.zero_le _, Nat.zero_le _⟩ dX12_lookNow_62 (pc' := 65) rfl ?_
  rintro r12 h9 ⟨er, e9⟩
  subst h9; subst er
  refine g_topl (y := lN (wgN σ (1) (0))) (wgC_N h6 hn4 hIt _ _) ?_
  have hb65 := wgN_le h6 hn4 hIt (1) (0)
  refine g_aload_n C 6 dX12_lookNow_65 rfl rfl rfl ?_
  refine g_iload C 2 dX12_lookNow_66 rfl rfl ?_
  refine g_iload C 0 dX12_lookNow_68 rfl rfl ?_
  refine g_callVi C (As := [.int (1), .int (0)]) (q := (RX12, TX12, 36)) (k_X12_tells l D b z hM hR (1) (w := 0) (by decide) (by decide)) hw_12_108 (hM) rfl (by decide) rfl rfl (Nat.le_of_ble_eq_true rfl) ⟨Nat.zero_le _, Nat.zero_le _⟩ dX12_lookNow_70 (pc' := 73) rfl ?_
  rintro r13 h9 ⟨er, e9⟩
  subst h9; subst er
  refine g_topi (y := nI (fitN (gN σ 4) 1 0)) (F_fitN hn4 _ _) ?_
  have hf73 := fitN_le hn4 1 0
  refine g_i2l C dX12_lookNow_73 rfl ?_
  refine g_topl (y := lN (fitN (gN σ 4) 1 0)) (lN_ofI (by omega)) ?_
  refine g_lmul C dX12_lookNow_74 rfl ?_
  refine g_topl (y := lN (wgN σ (1) (0) * fitN (gN σ 4) 1 0)) (lN_mul _ _) ?_
  refine g_ladd C dX12_lookNow_75 rfl ?_
  refine g_topl (y := lN (0 + (wgN σ (1) (0) * fitN (gN σ 4) 1 0))) (lN_add _ _) ?_
  refine g_lstore C ([(11, .long (lN ((0 + (wgN σ (1) (0) * fitN (gN σ 4) 1 0))))), (13, .int (0)), (10, .int (1)), (8, .long (lN (10 * min (c * wgN σ 1 (-1)) (t * wgN σ 1 1) - mbM σ 0 c t))), (6, .long (lN (wgN σ (1) (1)))), (4, .long (lN (wgN σ (1) ((-1))))), (0, .ref (m)), (1, .int (nI (c))), (2, .int (nI (t))), (3, .int (p))]) dX12_lookNow_76 (by decide) rfl rfl ?_
  refine g_iinc C (v := 1) 1 ([(13, .int (1)), (11, .long (lN ((0 + (wgN σ (1) (0) * fitN (gN σ 4) 1 0))))), (10, .int (1)), (8, .long (lN (10 * min (c * wgN σ 1 (-1)) (t * wgN σ 1 1) - mbM σ 0 c t))), (6, .long (lN (wgN σ (1) (1)))), (4, .long (lN (wgN σ (1) ((-1))))), (0, .ref (m)), (1, .int (nI (c))), (2, .int (nI (t))), (3, .int (p))]) dX12_lookNow_78 rfl (by decide) (by decide) rfl rfl ?_
  refine g_goto C dX12_lookNow_81 (tgt := 50) (by decide) ?_
  refine g_iload C 0 dX12_lookNow_50 rfl rfl ?_
  refine g_iconst C (v := 3) dX12_lookNow_52 (by decide) rfl ?_
  refine g_icmp_ge C dX12_lookNow_53 (tgt := 84) (by decide) (pc' := 56) rfl (fun c53 => absurd c53 (by decide)) (fun _ => ?_)
  refine g_lload C 1 dX12_lookNow_56 rfl rfl ?_
  refine g_aload_n C 6 dX12_lookNow_58 rfl rfl rfl ?_
  refine g_iconst C (v := 1) dX12_lookNow_59 (by decide) rfl ?_
  refine g_iload C 0 dX12_lookNow_60 rfl rfl ?_
  refine g_callVl C (As := [.int (1), .int (1)]) (q := (RX12, TX12, 36)) (k_X12_weightOf l D b z hM hR h6 (a := 1) (by omega) (1)) hw_12_115 (hM) rfl (by decide) rfl rfl (Nat.le_of_ble_eq_true rfl) ⟨Nat.zero_le _, Nat.zero_le _⟩ dX12_lookNow_62 (pc' := 65) rfl ?_
  rintro r14 h9 ⟨er, e9⟩
  subst h9; subst er
  refine g_topl (y := lN (wgN σ (1) (1))) (wgC_N h6 hn4 hIt _ _) ?_
  have hb65 := wgN_le h6 hn4 hIt (1) (1)
  refine g_aload_n C 6 dX12_lookNow_65 rfl rfl rfl ?_
  refine g_iload C 2 dX12_lookNow_66 rfl rfl ?_
  refine g_iload C 0 dX12_lookNow_68 rfl rfl ?_
  refine g_callVi C (As := [.int (1), .int (1)]) (q := (RX12, TX12, 36)) (k_X12_tells l D b z hM hR (1) (w := 1) (by decide) (by decide)) hw_12_108 (hM) rfl (by decide) rfl rfl (Nat.le_of_ble_eq_true rfl) ⟨Nat.zero_le _, Nat.zero_le _⟩ dX12_lookNow_70 (pc' := 73) rfl ?_
  rintro r15 h9 ⟨er, e9⟩
  subst h9; subst er
  refine g_topi (y := nI (fitN (gN σ 4) 1 1)) (F_fitN hn4 _ _) ?_
  have hf73 := fitN_le hn4 1 1
  refine g_i2l C dX12_lookNow_73 rfl ?_
  refine g_topl (y := lN (fitN (gN σ 4) 1 1)) (lN_ofI (by omega)) ?_
  refine g_lmul C dX12_lookNow_74 rfl ?_
  refine g_topl (y := lN (wgN σ (1) (1) * fitN (gN σ 4) 1 1)) (lN_mul _ _) ?_
  refine g_ladd C dX12_lookNow_75 rfl ?_
  refine g_topl (y := lN ((0 + (wgN σ (1) (0) * fitN (gN σ 4) 1 0)) + (wgN σ (1) (1) * fitN (gN σ 4) 1 1))) (lN_add _ _) ?_
  refine g_lstore C ([(11, .long (lN (((0 + (wgN σ (1) (0) * fitN (gN σ 4) 1 0)) + (wgN σ (1) (1) * fitN (gN σ 4) 1 1))))), (13, .int (1)), (10, .int (1)), (8, .long (lN (10 * min (c * wgN σ 1 (-1)) (t * wgN σ 1 1) - mbM σ 0 c t))), (6, .long (lN (wgN σ (1) (1)))), (4, .long (lN (wgN σ (1) ((-1))))), (0, .ref (m)), (1, .int (nI (c))), (2, .int (nI (t))), (3, .int (p))]) dX12_lookNow_76 (by decide) rfl rfl ?_
  refine g_iinc C (v := 2) 1 ([(13, .int (2)), (11, .long (lN (((0 + (wgN σ (1) (0) * fitN (gN σ 4) 1 0)) + (wgN σ (1) (1) * fitN (gN σ 4) 1 1))))), (10, .int (1)), (8, .long (lN (10 * min (c * wgN σ 1 (-1)) (t * wgN σ 1 1) - mbM σ 0 c t))), (6, .long (lN (wgN σ (1) (1)))), (4, .long (lN (wgN σ (1) ((-1))))), (0, .ref (m)), (1, .int (nI (c))), (2, .int (nI (t))), (3, .int (p))]) dX12_lookNow_78 rfl (by decide) (by decide) rfl rfl ?_
  refine g_goto C dX12_lookNow_81 (tgt := 50) (by decide) ?_
  refine g_iload C 0 dX12_lookNow_50 rfl rfl ?_
  refine g_iconst C (v := 3) dX12_lookNow_52 (by decide) rfl ?_
  refine g_icmp_ge C dX12_lookNow_53 (tgt := 84) (by decide) (pc' := 56) rfl (fun c53 => absurd c53 (by decide)) (fun _ => ?_)
  refine g_lload C 1 dX12_lookNow_56 rfl rfl ?_
  refine g_aload_n C 6 dX12_lookNow_58 rfl rfl rfl ?_
  refine g_iconst C (v := 1) dX12_lookNow_59 (by decide) rfl ?_
  refine g_iload C 0 dX12_lookNow_60 rfl rfl ?_
  refine g_callVl C (As := [.int (1), .int (2)]) (q := (RX12, TX12, 36)) (k_X12_weightOf l D b z hM hR h6 (a := 1) (by omega) (2)) hw_12_115 (hM) rfl (by decide) rfl rfl (Nat.le_of_ble_eq_true rfl) ⟨Nat.zero_le _, Nat.zero_le _⟩ dX12_lookNow_62 (pc' := 65) rfl ?_
  rintro r16 h9 ⟨er, e9⟩
  subst h9; subst er
  refine g_topl (y := lN (wgN σ (1) (2))) (wgC_N h6 hn4 hIt _ _) ?_
  have hb65 := wgN_le h6 hn4 hIt (1) (2)
  refine g_aload_n C 6 dX12_lookNow_65 rfl rfl rfl ?_
  refine g_iload C 2 dX12_lookNow_66 rfl rfl ?_
  refine g_iload C 0 dX12_lookNow_68 rfl rfl ?_
  refine g_callVi C (As := [.int (1), .int (2)]) (q := (RX12, TX12, 36)) (k_X12_tells l D b z hM hR (1) (w := 2) (by decide) (by decide)) hw_12_108 (hM) rfl (by decide) rfl rfl (Nat.le_of_ble_eq_true rfl) ⟨Nat.zero_le _, Nat.zero_le _⟩ dX12_lookNow_70 (pc' := 73) rfl ?_
  rintro r17 h9 ⟨er, e9⟩
  subst h9; subst er
  refine g_topi (y := nI (fitN (gN σ 4) 1 2)) (F_fitN hn4 _ _) ?_
  have hf73 := fitN_le hn4 1 2
  refine g_i2l C dX12_lookNow_73 rfl ?_
  refine g_topl (y := lN (fitN (gN σ 4) 1 2)) (lN_ofI (by omega)) ?_
  refine g_lmul C dX12_lookNow_74 rfl ?_
  refine g_topl (y := lN (wgN σ (1) (2) * fitN (gN σ 4) 1 2)) (lN_mul _ _) ?_
  refine g_ladd C dX12_lookNow_75 rfl ?_
  refine g_topl (y := lN (((0 + (wgN σ (1) (0) * fitN (gN σ 4) 1 0)) + (wgN σ (1) (1) * fitN (gN σ 4) 1 1)) + (wgN σ (1) (2) * fitN (gN σ 4) 1 2))) (lN_add _ _) ?_
  refine g_lstore C ([(11, .long (lN ((((0 + (wgN σ (1) (0) * fitN (gN σ 4) 1 0)) + (wgN σ (1) (1) * fitN (gN σ 4) 1 1)) + (wgN σ (1) (2) * fitN (gN σ 4) 1 2))))), (13, .int (2)), (10, .int (1)), (8, .long (lN (10 * min (c * wgN σ 1 (-1)) (t * wgN σ 1 1) - mbM σ 0 c t))), (6, .long (lN (wgN σ (1) (1)))), (4, .long (lN (wgN σ (1) ((-1))))), (0, .ref (m)), (1, .int (nI (c))), (2, .int (nI (t))), (3, .int (p))]) dX12_lookNow_76 (by decide) rfl rfl ?_
  refine g_iinc C (v := 3) 1 ([(13, .int (3)), (11, .long (lN ((((0 + (wgN σ (1) (0) * fitN (gN σ 4) 1 0)) + (wgN σ (1) (1) * fitN (gN σ 4) 1 1)) + (wgN σ (1) (2) * fitN (gN σ 4) 1 2))))), (10, .int (1)), (8, .long (lN (10 * min (c * wgN σ 1 (-1)) (t * wgN σ 1 1) - mbM σ 0 c t))), (6, .long (lN (wgN σ (1) (1)))), (4, .long (lN (wgN σ (1) ((-1))))), (0, .ref (m)), (1, .int (nI (c))), (2, .int (nI (t))), (3, .int (p))]) dX12_lookNow_78 rfl (by decide) (by decide) rfl rfl ?_
  refine g_goto C dX12_lookNow_81 (tgt := 50) (by decide) ?_
  refine g_iload C 0 dX12_lookNow_50 rfl rfl ?_
  refine g_iconst C (v := 3) dX12_lookNow_52 (by decide) rfl ?_
  refine g_icmp_ge C dX12_lookNow_53 (tgt := 84) (by decide) (pc' := 56) rfl (fun _ => ?_) (fun c53 => absurd (by decide) c53)
  refine g_lload C 3 dX12_lookNow_84 rfl rfl ?_
  refine g_iload_n C 7 dX12_lookNow_86 rfl rfl rfl ?_
  refine g_i2l C dX12_lookNow_87 rfl ?_
  refine g_topl (y := lN (c)) (lN_ofI (by omega)) ?_
  refine g_lload C 1 dX12_lookNow_88 rfl rfl ?_
  refine g_lmul C dX12_lookNow_90 rfl ?_
  refine g_topl (y := lN (c * (((0 + (wgN σ (1) (0) * fitN (gN σ 4) 1 0)) + (wgN σ (1) (1) * fitN (gN σ 4) 1 1)) + (wgN σ (1) (2) * fitN (gN σ 4) 1 2)))) (lN_mul _ _) ?_
  refine g_iload_n C 8 dX12_lookNow_91 rfl rfl rfl ?_
  refine g_i2l C dX12_lookNow_92 rfl ?_
  refine g_topl (y := lN (t)) (lN_ofI (by omega)) ?_
  refine g_lload C 4 dX12_lookNow_93 rfl rfl ?_
  refine g_lmul C dX12_lookNow_95 rfl ?_
  refine g_topl (y := lN (t * wgN σ (1) (1))) (lN_mul _ _) ?_
  refine g_aload_n C 6 dX12_lookNow_96 rfl rfl rfl ?_
  refine g_iload C 2 dX12_lookNow_97 rfl rfl ?_
  refine g_iconst C (v := 1) dX12_lookNow_99 (by decide) rfl ?_
  refine g_callVi C (As := [.int (1), .int (1)]) (q := (RX12, TX12, 36)) (k_X12_tells l D b z hM hR (1) (w := 1) (by decide) (by decide)) hw_12_108 (hM) rfl (by decide) rfl rfl (Nat.le_of_ble_eq_true rfl) ⟨Nat.zero_le _, Nat.zero_le _⟩ dX12_lookNow_100 (pc' := 103) rfl ?_
  rintro r18 h9 ⟨er, e9⟩
  subst h9; subst er
  refine g_topi (y := nI (fitN (gN σ 4) 1 1)) (F_fitN hn4 _ _) ?_
  have hf103 := fitN_le hn4 1 1
  refine g_i2l C dX12_lookNow_103 rfl ?_
  refine g_topl (y := lN (fitN (gN σ 4) 1 1)) (lN_ofI (by omega)) ?_
  refine g_lmul C dX12_lookNow_104 rfl ?_
  refine g_topl (y := lN ((t * wgN σ (1) (1)) * fitN (gN σ 4) 1 1)) (lN_mul _ _) ?_
  refine g_callSl C (As := [.long (lN ((c * (((0 + (wgN σ (1) (0) * fitN (gN σ 4) 1 0)) + (wgN σ (1) (1) * fitN (gN σ 4) 1 1)) + (wgN σ (1) (2) * fitN (gN σ 4) 1 2))))), .long (lN (((t * wgN σ (1) (1)) * fitN (gN σ 4) 1 1)))]) (k_X12_less l D b z h (lN ((c * (((0 + (wgN σ (1) (0) * fitN (gN σ 4) 1 0)) + (wgN σ (1) (1) * fitN (gN σ 4) 1 1)) + (wgN σ (1) (2) * fitN (gN σ 4) 1 2))))) (lN (((t * wgN σ (1) (1)) * fitN (gN σ 4) 1 1)))) hw_12_162 (by decide) rfl rfl (Nat.le_of_ble_eq_true rfl) ⟨Nat.zero_le _, Nat.zero_le _⟩ dX12_lookNow_105 (pc' := 108) rfl ?_
  rintro r19 h9 ⟨er, e9⟩
  subst h9; subst er
  refine g_topl (y := lN (mbM σ 1 c t)) (F_lessN (x := c * mtM σ 1) (y := t * wgN σ 1 1 * fitN (gN σ 4) 1 1) (by have := Nat.mul_le_mul hc (mtM_le h6 hn4 hIt 1); omega) (by have := Nat.mul_le_mul (Nat.mul_le_mul ht (wgN_le h6 hn4 hIt 1 1)) (fitN_le hn4 1 1); omega)) ?_
  refine g_lsub C dX12_lookNow_108 rfl ?_
  refine g_topl (y := lN ((10 * min (c * wgN σ 1 (-1)) (t * wgN σ 1 1) - mbM σ 0 c t) - mbM σ 1 c t)) (lN_sub (by omega)) ?_
  refine g_lstore C ([(8, .long (lN ((10 * min (c * wgN σ 1 (-1)) (t * wgN σ 1 1) - mbM σ 0 c t) - mbM σ 1 c t))), (13, .int (3)), (11, .long (lN ((((0 + (wgN σ (1) (0) * fitN (gN σ 4) 1 0)) + (wgN σ (1) (1) * fitN (gN σ 4) 1 1)) + (wgN σ (1) (2) * fitN (gN σ 4) 1 2))))), (10, .int (1)), (6, .long (lN (wgN σ (1) (1)))), (4, .long (lN (wgN σ (1) ((-1))))), (0, .ref (m)), (1, .int (nI (c))), (2, .int (nI (t))), (3, .int (p))]) dX12_lookNow_109 (by decide) rfl rfl ?_
  refine g_iinc C (v := 2) 3 ([(10, .int (2)), (8, .long (lN ((10 * min (c * wgN σ 1 (-1)) (t * wgN σ 1 1) - mbM σ 0 c t) - mbM σ 1 c t))), (13, .int (3)), (11, .long (lN ((((0 + (wgN σ (1) (0) * fitN (gN σ 4) 1 0)) + (wgN σ (1) (1) * fitN (gN σ 4) 1 1)) + (wgN σ (1) (2) * fitN (gN σ 4) 1 2))))), (6, .long (lN (wgN σ (1) (1)))), (4, .long (lN (wgN σ (1) ((-1))))), (0, .ref (m)), (1, .int (nI (c))), (2, .int (nI (t))), (3, .int (p))]) dX12_lookNow_111 rfl (by decide) (by decide) rfl rfl ?_
  refine g_goto C dX12_lookNow_114 (tgt := 38) (by decide) ?_
  refine g_iload C 0 dX12_lookNow_38 rfl rfl ?_
  refine g_iconst C (v := 3) dX12_lookNow_40 (by decide) rfl ?_
  refine g_icmp_ge C dX12_lookNow_41 (tgt := 117) (by decide) (pc' := 44) rfl (fun c41 => absurd c41 (by decide)) (fun _ => ?_)
  refine g_lconst C (v := 0) dX12_lookNow_44 (by decide) rfl ?_
  refine g_topl (y := lN 0) rfl ?_
  refine g_lstore C ([(11, .long (lN (0))), (10, .int (2)), (8, .long (lN ((10 * min (c * wgN σ 1 (-1)) (t * wgN σ 1 1) - mbM σ 0 c t) - mbM σ 1 c t))), (13, .int (3)), (6, .long (lN (wgN σ (1) (1)))), (4, .long (lN (wgN σ (1) ((-1))))), (0, .ref (m)), (1, .int (nI (c))), (2, .int (nI (t))), (3, .int (p))]) dX12_lookNow_45 (by decide) rfl rfl ?_
  refine g_iconst C (v := 0) dX12_lookNow_47 (by decide) rfl ?_
  refine g_istore C ([(13, .int (0)), (11, .long (lN (0))), (10, .int (2)), (8, .long (lN ((10 * min (c * wgN σ 1 (-1)) (t * wgN σ 1 1) - mbM σ 0 c t) - mbM σ 1 c t))), (6, .long (lN (wgN σ (1) (1)))), (4, .long (lN (wgN σ (1) ((-1))))), (0, .ref (m)), (1, .int (nI (c))), (2, .int (nI (t))), (3, .int (p))]) dX12_lookNow_48 (by decide) rfl rfl ?_
  refine g_iload C 0 dX12_lookNow_50 rfl rfl ?_
  refine g_iconst C (v := 3) dX12_lookNow_52 (by decide) rfl ?_
  refine g_icmp_ge C dX12_lookNow_53 (tgt := 84) (by decide) (pc' := 56) rfl (fun c53 => absurd c53 (by decide)) (fun _ => ?_)
  refine g_lload C 1 dX12_lookNow_56 rfl rfl ?_
  refine g_aload_n C 6 dX12_lookNow_58 rfl rfl rfl ?_
  refine g_iconst C (v := 1) dX12_lookNow_59 (by decide) rfl ?_
  refine g_iload C 0 dX12_lookNow_60 rfl rfl ?_
  refine g_callVl C (As := [.int (1), .int (0)]) (q := (RX12, TX12, 36)) (k_X12_weightOf l D b z hM hR h6 (a := 1) (by omega) (0)) hw_12_115 (hM) rfl (by decide) rfl rfl (Nat.le_of_ble_eq_true rfl) ⟨Nat.zero_le _, Nat.zero_le _⟩ dX12_lookNow_62 (pc' := 65) rfl ?_
  rintro r20 h9 ⟨er, e9⟩
  subst h9; subst er
  refine g_topl (y := lN (wgN σ (1) (0))) (wgC_N h6 hn4 hIt _ _) ?_
  have hb65 := wgN_le h6 hn4 hIt (1) (0)
  refine g_aload_n C 6 dX12_lookNow_65 rfl rfl rfl ?_
  refine g_iload C 2 dX12_lookNow_66 rfl rfl ?_
  refine g_iload C 0 dX12_lookNow_68 rfl rfl ?_
  refine g_callVi C (As := [.int (2), .int (0)]) (q := (RX12, TX12, 36)) (k_X12_tells l D b z hM hR (2) (w := 0) (by decide) (by decide)) hw_12_108 (hM) rfl (by decide) rfl rfl (Nat.le_of_ble_eq_true rfl) ⟨Nat.zero_le _, Nat.zero_le _⟩ dX12_lookNow_70 (pc' := 73) rfl ?_
  rintro r21 h9 ⟨er, e9⟩
  subst h9; subst er
  refine g_topi (y := nI (fitN (gN σ 4) 2 0)) (F_fitN hn4 _ _) ?_
  have hf73 := fitN_le hn4 2 0
  refine g_i2l C dX12_lookNow_73 rfl ?_
  refine g_topl (y := lN (fitN (gN σ 4) 2 0)) (lN_ofI (by omega)) ?_
  refine g_lmul C dX12_lookNow_74 rfl ?_
  refine g_topl (y := lN (wgN σ (1) (0) * fitN (gN σ 4) 2 0)) (lN_mul _ _) ?_
  refine g_ladd C dX12_lookNow_75 rfl ?_
  refine g_topl (y := lN (0 + (wgN σ (1) (0) * fitN (gN σ 4) 2 0))) (lN_add _ _) ?_
  refine g_lstore C ([(11, .long (lN ((0 + (wgN σ (1) (0) * fitN (gN σ 4) 2 0))))), (13, .int (0)), (10, .int (2)), (8, .long (lN ((10 * min (c * wgN σ 1 (-1)) (t * wgN σ 1 1) - mbM σ 0 c t) - mbM σ 1 c t))), (6, .long (lN (wgN σ (1) (1)))), (4, .long (lN (wgN σ (1) ((-1))))), (0, .ref (m)), (1, .int (nI (c))), (2, .int (nI (t))), (3, .int (p))]) dX12_lookNow_76 (by decide) rfl rfl ?_
  refine g_iinc C (v := 1) 1 ([(13, .int (1)), (11, .long (lN ((0 + (wgN σ (1) (0) * fitN (gN σ 4) 2 0))))), (10, .int (2)), (8, .long (lN ((10 * min (c * wgN σ 1 (-1)) (t * wgN σ 1 1) - mbM σ 0 c t) - mbM σ 1 c t))), (6, .long (lN (wgN σ (1) (1)))), (4, .long (lN (wgN σ (1) ((-1))))), (0, .ref (m)), (1, .int (nI (c))), (2, .int (nI (t))), (3, .int (p))]) dX12_lookNow_78 rfl (by decide) (by decide) rfl rfl ?_
  refine g_goto C dX12_lookNow_81 (tgt := 50) (by decide) ?_
  refine g_iload C 0 dX12_lookNow_50 rfl rfl ?_
  refine g_iconst C (v := 3) dX12_lookNow_52 (by decide) rfl ?_
  refine g_icmp_ge C dX12_lookNow_53 (tgt := 84) (by decide) (pc' := 56) rfl (fun c53 => absurd c53 (by decide)) (fun _ => ?_)
  refine g_lload C 1 dX12_lookNow_56 rfl rfl ?_
  refine g_aload_n C 6 dX12_lookNow_58 rfl rfl rfl ?_
  refine g_iconst C (v := 1) dX12_lookNow_59 (by decide) rfl ?_
  refine g_iload C 0 dX12_lookNow_60 rfl rfl ?_
  refine g_callVl C (As := [.int (1), .int (1)]) (q := (RX12, TX12, 36)) (k_X12_weightOf l D b z hM hR h6 (a := 1) (by omega) (1)) hw_12_115 (hM) rfl (by decide) rfl rfl (Nat.le_of_ble_eq_true rfl) ⟨Nat.zero_le _, Nat.zero_le _⟩ dX12_lookNow_62 (pc' := 65) rfl ?_
  rintro r22 h9 ⟨er, e9⟩
  subst h9; subst er
  refine g_topl (y := lN (wgN σ (1) (1))) (wgC_N h6 hn4 hIt _ _) ?_
  have hb65 := wgN_le h6 hn4 hIt (1) (1)
  refine g_aload_n C 6 dX12_lookNow_65 rfl rfl rfl ?_
  refine g_iload C 2 dX12_lookNow_66 rfl rfl ?_
  refine g_iload C 0 dX12_lookNow_68 rfl rfl ?_
  refine g_callVi C (As := [.int (2), .int (1)]) (q := (RX12, TX12, 36)) (k_X12_tells l D b z hM hR (2) (w := 1) (by decide) (by decide)) hw_12_108 (hM) rfl (by decide) rfl rfl (Nat.le_of_ble_eq_true rfl) ⟨Nat.zero_le _, Nat.zero_le _⟩ dX12_lookNow_70 (pc' := 73) rfl ?_
  rintro r23 h9 ⟨er, e9⟩
  subst h9; subst er
  refine g_topi (y := nI (fitN (gN σ 4) 2 1)) (F_fitN hn4 _ _) ?_
  have hf73 := fitN_le hn4 2 1
  refine g_i2l C dX12_lookNow_73 rfl ?_
  refine g_topl (y := lN (fitN (gN σ 4) 2 1)) (lN_ofI (by omega)) ?_
  refine g_lmul C dX12_lookNow_74 rfl ?_
  refine g_topl (y := lN (wgN σ (1) (1) * fitN (gN σ 4) 2 1)) (lN_mul _ _) ?_
  refine g_ladd C dX12_lookNow_75 rfl ?_
  refine g_topl (y := lN ((0 + (wgN σ (1) (0) * fitN (gN σ 4) 2 0)) + (wgN σ (1) (1) * fitN (gN σ 4) 2 1))) (lN_add _ _) ?_
  refine g_lstore C ([(11, .long (lN (((0 + (wgN σ (1) (0) * fitN (gN σ 4) 2 0)) + (wgN σ (1) (1) * fitN (gN σ 4) 2 1))))), (13, .int (1)), (10, .int (2)), (8, .long (lN ((10 * min (c * wgN σ 1 (-1)) (t * wgN σ 1 1) - mbM σ 0 c t) - mbM σ 1 c t))), (6, .long (lN (wgN σ (1) (1)))), (4, .long (lN (wgN σ (1) ((-1))))), (0, .ref (m)), (1, .int (nI (c))), (2, .int (nI (t))), (3, .int (p))]) dX12_lookNow_76 (by decide) rfl rfl ?_
  refine g_iinc C (v := 2) 1 ([(13, .int (2)), (11, .long (lN (((0 + (wgN σ (1) (0) * fitN (gN σ 4) 2 0)) + (wgN σ (1) (1) * fitN (gN σ 4) 2 1))))), (10, .int (2)), (8, .long (lN ((10 * min (c * wgN σ 1 (-1)) (t * wgN σ 1 1) - mbM σ 0 c t) - mbM σ 1 c t))), (6, .long (lN (wgN σ (1) (1)))), (4, .long (lN (wgN σ (1) ((-1))))), (0, .ref (m)), (1, .int (nI (c))), (2, .int (nI (t))), (3, .int (p))]) dX12_lookNow_78 rfl (by decide) (by decide) rfl rfl ?_
  refine g_goto C dX12_lookNow_81 (tgt := 50) (by decide) ?_
  refine g_iload C 0 dX12_lookNow_50 rfl rfl ?_
  refine g_iconst C (v := 3) dX12_lookNow_52 (by decide) rfl ?_
  refine g_icmp_ge C dX12_lookNow_53 (tgt := 84) (by decide) (pc' := 56) rfl (fun c53 => absurd c53 (by decide)) (fun _ => ?_)
  refine g_lload C 1 dX12_lookNow_56 rfl rfl ?_
  refine g_aload_n C 6 dX12_lookNow_58 rfl rfl rfl ?_
  refine g_iconst C (v := 1) dX12_lookNow_59 (by decide) rfl ?_
  refine g_iload C 0 dX12_lookNow_60 rfl rfl ?_
  refine g_callVl C (As := [.int (1), .int (2)]) (q := (RX12, TX12, 36)) (k_X12_weightOf l D b z hM hR h6 (a := 1) (by omega) (2)) hw_12_115 (hM) rfl (by decide) rfl rfl (Nat.le_of_ble_eq_true rfl) ⟨Nat.zero_le _, Nat.zero_le _⟩ dX12_lookNow_62 (pc' := 65) rfl ?_
  rintro r24 h9 ⟨er, e9⟩
  subst h9; subst er
  refine g_topl (y := lN (wgN σ (1) (2))) (wgC_N h6 hn4 hIt _ _) ?_
  have hb65 := wgN_le h6 hn4 hIt (1) (2)
  refine g_aload_n C 6 dX12_lookNow_65 rfl rfl rfl ?_
  refine g_iload C 2 dX12_lookNow_66 rfl rfl ?_
  refine g_iload C 0 dX12_lookNow_68 rfl rfl ?_
  refine g_callVi C (As := [.int (2), .int (2)]) (q := (RX12, TX12, 36)) (k_X12_tells l D b z hM hR (2) (w := 2) (by decide) (by decide)) hw_12_108 (hM) rfl (by decide) rfl rfl (Nat.le_of_ble_eq_true rfl) ⟨Nat.zero_le _, Nat.zero_le _⟩ dX12_lookNow_70 (pc' := 73) rfl ?_
  rintro r25 h9 ⟨er, e9⟩
  subst h9; subst er
  refine g_topi (y := nI (fitN (gN σ 4) 2 2)) (F_fitN hn4 _ _) ?_
  have hf73 := fitN_le hn4 2 2
  refine g_i2l C dX12_lookNow_73 rfl ?_
  refine g_topl (y := lN (fitN (gN σ 4) 2 2)) (lN_ofI (by omega)) ?_
  refine g_lmul C dX12_lookNow_74 rfl ?_
  refine g_topl (y := lN (wgN σ (1) (2) * fitN (gN σ 4) 2 2)) (lN_mul _ _) ?_
  refine g_ladd C dX12_lookNow_75 rfl ?_
  refine g_topl (y := lN (((0 + (wgN σ (1) (0) * fitN (gN σ 4) 2 0)) + (wgN σ (1) (1) * fitN (gN σ 4) 2 1)) + (wgN σ (1) (2) * fitN (gN σ 4) 2 2))) (lN_add _ _) ?_
  refine g_lstore C ([(11, .long (lN ((((0 + (wgN σ (1) (0) * fitN (gN σ 4) 2 0)) + (wgN σ (1) (1) * fitN (gN σ 4) 2 1)) + (wgN σ (1) (2) * fitN (gN σ 4) 2 2))))), (13, .int (2)), (10, .int (2)), (8, .long (lN ((10 * min (c * wgN σ 1 (-1)) (t * wgN σ 1 1) - mbM σ 0 c t) - mbM σ 1 c t))), (6, .long (lN (wgN σ (1) (1)))), (4, .long (lN (wgN σ (1) ((-1))))), (0, .ref (m)), (1, .int (nI (c))), (2, .int (nI (t))), (3, .int (p))]) dX12_lookNow_76 (by decide) rfl rfl ?_
  refine g_iinc C (v := 3) 1 ([(13, .int (3)), (11, .long (lN ((((0 + (wgN σ (1) (0) * fitN (gN σ 4) 2 0)) + (wgN σ (1) (1) * fitN (gN σ 4) 2 1)) + (wgN σ (1) (2) * fitN (gN σ 4) 2 2))))), (10, .int (2)), (8, .long (lN ((10 * min (c * wgN σ 1 (-1)) (t * wgN σ 1 1) - mbM σ 0 c t) - mbM σ 1 c t))), (6, .long (lN (wgN σ (1) (1)))), (4, .long (lN (wgN σ (1) ((-1))))), (0, .ref (m)), (1, .int (nI (c))), (2, .int (nI (t))), (3, .int (p))]) dX12_lookNow_78 rfl (by decide) (by decide) rfl rfl ?_
  refine g_goto C dX12_lookNow_81 (tgt := 50) (by decide) ?_
  refine g_iload C 0 dX12_lookNow_50 rfl rfl ?_
  refine g_iconst C (v := 3) dX12_lookNow_52 (by decide) rfl ?_
  refine g_icmp_ge C dX12_lookNow_53 (tgt := 84) (by decide) (pc' := 56) rfl (fun _ => ?_) (fun c53 => absurd (by decide) c53)
  refine g_lload C 3 dX12_lookNow_84 rfl rfl ?_
  refine g_iload_n C 7 dX12_lookNow_86 rfl rfl rfl ?_
  refine g_i2l C dX12_lookNow_87 rfl ?_
  refine g_topl (y := lN (c)) (lN_ofI (by omega)) ?_
  refine g_lload C 1 dX12_lookNow_88 rfl rfl ?_
  refine g_lmul C dX12_lookNow_90 rfl ?_
  refine g_topl (y := lN (c * (((0 + (wgN σ (1) (0) * fitN (gN σ 4) 2 0)) + (wgN σ (1) (1) * fitN (gN σ 4) 2 1)) + (wgN σ (1) (2) * fitN (gN σ 4) 2 2)))) (lN_mul _ _) ?_
  refine g_iload_n C 8 dX12_lookNow_91 rfl rfl rfl ?_
  refine g_i2l C dX12_lookNow_92 rfl ?_
  refine g_topl (y := lN (t)) (lN_ofI (by omega)) ?_
  refine g_lload C 4 dX12_lookNow_93 rfl rfl ?_
  refine g_lmul C dX12_lookNow_95 rfl ?_
  refine g_topl (y := lN (t * wgN σ (1) (1))) (lN_mul _ _) ?_
  refine g_aload_n C 6 dX12_lookNow_96 rfl rfl rfl ?_
  refine g_iload C 2 dX12_lookNow_97 rfl rfl ?_
  refine g_iconst C (v := 1) dX12_lookNow_99 (by decide) rfl ?_
  refine g_callVi C (As := [.int (2), .int (1)]) (q := (RX12, TX12, 36)) (k_X12_tells l D b z hM hR (2) (w := 1) (by decide) (by decide)) hw_12_108 (hM) rfl (by decide) rfl rfl (Nat.le_of_ble_eq_true rfl) ⟨Nat.zero_le _, Nat.zero_le _⟩ dX12_lookNow_100 (pc' := 103) rfl ?_
  rintro r26 h9 ⟨er, e9⟩
  subst h9; subst er
  refine g_topi (y := nI (fitN (gN σ 4) 2 1)) (F_fitN hn4 _ _) ?_
  have hf103 := fitN_le hn4 2 1
  refine g_i2l C dX12_lookNow_103 rfl ?_
  refine g_topl (y := lN (fitN (gN σ 4) 2 1)) (lN_ofI (by omega)) ?_
  refine g_lmul C dX12_lookNow_104 rfl ?_
  refine g_topl (y := lN ((t * wgN σ (1) (1)) * fitN (gN σ 4) 2 1)) (lN_mul _ _) ?_
  refine g_callSl C (As := [.long (lN ((c * (((0 + (wgN σ (1) (0) * fitN (gN σ 4) 2 0)) + (wgN σ (1) (1) * fitN (gN σ 4) 2 1)) + (wgN σ (1) (2) * fitN (gN σ 4) 2 2))))), .long (lN (((t * wgN σ (1) (1)) * fitN (gN σ 4) 2 1)))]) (k_X12_less l D b z h (lN ((c * (((0 + (wgN σ (1) (0) * fitN (gN σ 4) 2 0)) + (wgN σ (1) (1) * fitN (gN σ 4) 2 1)) + (wgN σ (1) (2) * fitN (gN σ 4) 2 2))))) (lN (((t * wgN σ (1) (1)) * fitN (gN σ 4) 2 1)))) hw_12_162 (by decide) rfl rfl (Nat.le_of_ble_eq_true rfl) ⟨Nat.zero_le _, Nat.zero_le _⟩ dX12_lookNow_105 (pc' := 108) rfl ?_
  rintro r27 h9 ⟨er, e9⟩
  subst h9; subst er
  refine g_topl (y := lN (mbM σ 2 c t)) (F_lessN (x := c * mtM σ 2) (y := t * wgN σ 1 1 * fitN (gN σ 4) 2 1) (by have := Nat.mul_le_mul hc (mtM_le h6 hn4 hIt 2); omega) (by have := Nat.mul_le_mul (Nat.mul_le_mul ht (wgN_le h6 hn4 hIt 1 1)) (fitN_le hn4 2 1); omega)) ?_
  refine g_lsub C dX12_lookNow_108 rfl ?_
  refine g_topl (y := lN (((10 * min (c * wgN σ 1 (-1)) (t * wgN σ 1 1) - mbM σ 0 c t) - mbM σ 1 c t) - mbM σ 2 c t)) (lN_sub (by omega)) ?_
  refine g_lstore C ([(8, .long (lN (((10 * min (c * wgN σ 1 (-1)) (t * wgN σ 1 1) - mbM σ 0 c t) - mbM σ 1 c t) - mbM σ 2 c t))), (13, .int (3)), (11, .long (lN ((((0 + (wgN σ (1) (0) * fitN (gN σ 4) 2 0)) + (wgN σ (1) (1) * fitN (gN σ 4) 2 1)) + (wgN σ (1) (2) * fitN (gN σ 4) 2 2))))), (10, .int (2)), (6, .long (lN (wgN σ (1) (1)))), (4, .long (lN (wgN σ (1) ((-1))))), (0, .ref (m)), (1, .int (nI (c))), (2, .int (nI (t))), (3, .int (p))]) dX12_lookNow_109 (by decide) rfl rfl ?_
  refine g_iinc C (v := 3) 3 ([(10, .int (3)), (8, .long (lN (((10 * min (c * wgN σ 1 (-1)) (t * wgN σ 1 1) - mbM σ 0 c t) - mbM σ 1 c t) - mbM σ 2 c t))), (13, .int (3)), (11, .long (lN ((((0 + (wgN σ (1) (0) * fitN (gN σ 4) 2 0)) + (wgN σ (1) (1) * fitN (gN σ 4) 2 1)) + (wgN σ (1) (2) * fitN (gN σ 4) 2 2))))), (6, .long (lN (wgN σ (1) (1)))), (4, .long (lN (wgN σ (1) ((-1))))), (0, .ref (m)), (1, .int (nI (c))), (2, .int (nI (t))), (3, .int (p))]) dX12_lookNow_111 rfl (by decide) (by decide) rfl rfl ?_
  refine g_goto C dX12_lookNow_114 (tgt := 38) (by decide) ?_
  refine g_iload C 0 dX12_lookNow_38 rfl rfl ?_
  refine g_iconst C (v := 3) dX12_lookNow_40 (by decide) rfl ?_
  refine g_icmp_ge C dX12_lookNow_41 (tgt := 117) (by decide) (pc' := 44) rfl (fun _ => ?_) (fun c41 => absurd (by decide) c41)
  refine g_lload C 1 dX12_lookNow_117 rfl rfl ?_
  refine g_ldc2 C kl_12_160 dX12_lookNow_119 rfl ?_
  refine g_topl (y := lN 10) rfl ?_
  refine g_lload C 5 dX12_lookNow_122 rfl rfl ?_
  refine g_lmul C dX12_lookNow_124 rfl ?_
  refine g_topl (y := lN (10 * wgN σ (1) ((-1)))) (lN_mul _ _) ?_
  refine g_iload_n C 9 dX12_lookNow_125 rfl rfl rfl ?_
  refine g_callSl C (As := [.long (lN (((10 * min (c * wgN σ 1 (-1)) (t * wgN σ 1 1) - mbM σ 0 c t) - mbM σ 1 c t) - mbM σ 2 c t)), .long (lN ((10 * wgN σ (1) ((-1))))), .int (p)]) (k_X12_lowest l D b z h (x := (((10 * min (c * wgN σ 1 (-1)) (t * wgN σ 1 1) - mbM σ 0 c t) - mbM σ 1 c t) - mbM σ 2 c t)) (y := (10 * wgN σ (1) ((-1)))) (by have := Nat.min_le_left (c * wgN σ 1 (-1)) (t * wgN σ 1 1); have := Nat.mul_le_mul hc (wgN_le h6 hn4 hIt 1 (-1)); omega) (by omega) (by omega) (p)) hw_12_135 (by decide) rfl rfl (Nat.le_of_ble_eq_true rfl) ⟨Nat.zero_le _, Nat.zero_le _⟩ dX12_lookNow_126 (pc' := 129) rfl ?_
  rintro r28 h9 ⟨er, e9⟩
  subst h9; subst er
  exact ret _ _ _ _ dX12_lookNow_129 (⟨rfl, rfl⟩)
set_option maxHeartbeats 4000000 in
set_option maxRecDepth 100000 in
theorem k_X12_look (l : Launch) (D : va_G) (b z : Nat) {h : qH} {m : Nat} {σ : sg} {s18 s35 : Int64} {s19 s20 s23 s24 : Int32} {f21 f22 : Nat → Int32} (hM : MdO h m σ s18 s19 s20 s23 s24 s35) (hR : MdR D h m σ f21 f22) (h6 : gN σ 6 < 3) (hn4 : gN σ 4 < 10) (hIt : ∀ i, i < 9 → gA σ 2 i ≤ 10) (h0 : gN σ 0 ≤ 1) (hTot : gN σ 0 = 1 → 0 < wgN σ 1 (-1)) (c t p : Int32) : qMl l D b yX12_look cX12_look 4 4 107 [.ref (m), .int (c), .int (t), .int (p)] h z (fun r0 h' => r0 = mLook σ c t p ∧ h' = h) := by
  refine q_l (L := [(0, .ref (m)), (1, .int (c)), (2, .int (t)), (3, .int (p))]) (own := RX12) (by decide) rfl (Nat.le_of_ble_eq_true rfl) rfl ?_
  intro X C ret
  refine g_iload_n C 1 dX12_look_0 rfl rfl rfl ?_
  refine g_iconst C (v := 1) dX12_look_1 (by decide) rfl ?_
  refine g_bipush C (v := 9) dX12_look_2 (by decide) rfl ?_
  refine g_callSi C (As := [.int (c), .int (1), .int (9)]) (k_X12_within l D b z h (c) (1) (9)) hw_12_56 (by decide) rfl rfl (Nat.le_of_ble_eq_true rfl) ⟨Nat.zero_le _, Nat.zero_le _⟩ dX12_look_4 (pc' := 7) rfl ?_
  rintro r1 h9 ⟨⟨er, hp4⟩ | ⟨er, hp4⟩, e9⟩
  · subst h9; subst er
    have hp4 := (wit_in (lo := 1) (hi := 9) (x := c) (by decide) (by decide)).mp hp4
    have hp4_ := hp4
    obtain ⟨i, rfl, hp4a, hp4b⟩ := hp4_
    refine g_if_eq C dX12_look_7 (tgt := 29) (by decide) (pc' := 10) rfl (fun c7 => absurd c7 (by decide)) (fun _ => ?_)
    refine g_iload_n C 2 dX12_look_10 rfl rfl rfl ?_
    refine g_iconst C (v := 1) dX12_look_11 (by decide) rfl ?_
    refine g_bipush C (v := 9) dX12_look_12 (by decide) rfl ?_
    refine g_callSi C (As := [.int (t), .int (1), .int (9)]) (k_X12_within l D b z h (t) (1) (9)) hw_12_56 (by decide) rfl rfl (Nat.le_of_ble_eq_true rfl) ⟨Nat.zero_le _, Nat.zero_le _⟩ dX12_look_14 (pc' := 17) rfl ?_
    rintro r2 h9 ⟨⟨er, hp14⟩ | ⟨er, hp14⟩, e9⟩
    · subst h9; subst er
      have hp14 := (wit_in (lo := 1) (hi := 9) (x := t) (by decide) (by decide)).mp hp14
      have hp14_ := hp14
      obtain ⟨j, rfl, hp14a, hp14b⟩ := hp14_
      refine g_if_eq C dX12_look_17 (tgt := 29) (by decide) (pc' := 20) rfl (fun c17 => absurd c17 (by decide)) (fun _ => ?_)
      refine g_iload_n C 3 dX12_look_20 rfl rfl rfl ?_
      refine g_iconst C (v := 0) dX12_look_21 (by decide) rfl ?_
      refine g_iconst C (v := 1) dX12_look_22 (by decide) rfl ?_
      refine g_callSi C (As := [.int (p), .int (0), .int (1)]) (k_X12_within l D b z h (p) (0) (1)) hw_12_56 (by decide) rfl rfl (Nat.le_of_ble_eq_true rfl) ⟨Nat.zero_le _, Nat.zero_le _⟩ dX12_look_23 (pc' := 26) rfl ?_
      rintro r3 h9 ⟨⟨er, hp23⟩ | ⟨er, hp23⟩, e9⟩
      · subst h9; subst er
        have hp23 := (wit_in (lo := 0) (hi := 1) (x := p) (by decide) (by decide)).mp hp23
        refine g_if_ne C dX12_look_26 (tgt := 33) (by decide) (pc' := 29) rfl (fun _ => ?_) (fun c26 => absurd c26 (by decide))
        refine g_aload_n C 0 dX12_look_33 rfl rfl rfl ?_
        refine gf_12_82 C (hM) (v := .int (nI (gN σ 0))) rfl dX12_look_34 rfl ?_
        refine g_if_eq C dX12_look_37 (tgt := 50) (by decide) (pc' := 40) rfl ?_ ?_
        · intro c37
          replace c37 := (nI_eq (a := gN σ 0) (b := 0) (by omega) (by omega)).mp c37
          refine g_ldc2 C kl_12_147 dX12_look_50 rfl ?_
          exact ret _ _ _ _ dX12_look_53 (⟨by unfold mLook; rw [cIf_t ⟨hp4, hp14, hp23⟩, if_pos c37], rfl⟩)
        · intro c37
          replace c37 := (not_congr (nI_eq (a := gN σ 0) (b := 0) (by omega) (by omega))).mp c37
          refine g_aload_n C 0 dX12_look_40 rfl rfl rfl ?_
          refine g_iload_n C 1 dX12_look_41 rfl rfl rfl ?_
          refine g_iload_n C 2 dX12_look_42 rfl rfl rfl ?_
          refine g_iload_n C 3 dX12_look_43 rfl rfl rfl ?_
          refine g_callVl C (As := [.int (nI (i)), .int (nI (j)), .int (p)]) (q := (RX12, TX12, 36)) (k_X12_lookNow l D b z hM hR h6 hn4 hIt (hTot (by omega)) (c := i) (t := j) (by omega) (by omega) (p)) hw_12_166 (hM) rfl (by decide) rfl rfl (Nat.le_of_ble_eq_true rfl) ⟨Nat.zero_le _, Nat.zero_le _⟩ dX12_look_44 (pc' := 47) rfl ?_
          rintro r4 h9 ⟨er, e9⟩
          subst h9; subst er
          refine g_goto C dX12_look_47 (tgt := 53) (by decide) ?_
          exact ret _ _ _ _ dX12_look_53 (⟨by unfold mLook; rw [cIf_t ⟨hp4, hp14, hp23⟩, if_neg c37, nIc (by omega), nIc (by omega)], rfl⟩)
      · subst h9; subst er
        have hp23 := (not_congr (wit_in (lo := 0) (hi := 1) (x := p) (by decide) (by decide))).mp hp23
        refine g_if_ne C dX12_look_26 (tgt := 33) (by decide) (pc' := 29) rfl (fun c26 => absurd (by decide) c26) (fun _ => ?_)
        refine g_ldc2 C kl_12_141 dX12_look_29 rfl ?_
        exact ret _ _ _ _ dX12_look_32 (⟨by unfold mLook; rw [cIf_f (fun g => hp23 g.2.2)], rfl⟩)
    · subst h9; subst er
      have hp14 := (not_congr (wit_in (lo := 1) (hi := 9) (x := t) (by decide) (by decide))).mp hp14
      refine g_if_eq C dX12_look_17 (tgt := 29) (by decide) (pc' := 20) rfl (fun _ => ?_) (fun c17 => absurd (by decide) c17)
      refine g_ldc2 C kl_12_141 dX12_look_29 rfl ?_
      exact ret _ _ _ _ dX12_look_32 (⟨by unfold mLook; rw [cIf_f (fun g => hp14 g.2.1)], rfl⟩)
  · subst h9; subst er
    have hp4 := (not_congr (wit_in (lo := 1) (hi := 9) (x := c) (by decide) (by decide))).mp hp4
    refine g_if_eq C dX12_look_7 (tgt := 29) (by decide) (pc' := 10) rfl (fun _ => ?_) (fun c7 => absurd (by decide) c7)
    refine g_ldc2 C kl_12_141 dX12_look_29 rfl ?_
    exact ret _ _ _ _ dX12_look_32 (⟨by unfold mLook; rw [cIf_f (fun g => hp4 g.1)], rfl⟩)

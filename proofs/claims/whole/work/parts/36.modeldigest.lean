/-! the reference model: the digest -/
noncomputable def mdP (σ : sg) (s : Int64) : Nat → Int64
  | 0 => s
  | i + 1 => mx (mx (mx (mx (mx (mdP σ s i) (mPer σ i 0).toInt64) (mPer σ i 1).toInt64) (mPer σ i 2).toInt64) (mPer σ i 3).toInt64) (mPer σ i 4).toInt64
def mlk (σ : sg) (k : Nat) (w p : Int32) : Int64 := lwN (wgN σ k w) (wgN σ 1 (-1)) p
def mlo (σ : sg) (c t : Nat) (p : Int32) : Int64 := lwN (gnN σ c t) (10 * wgN σ 1 (-1)) p
def msr (σ : sg) (k : Nat) : Int32 := srF (fun w => wgC σ k (nI w))
def mdL (σ : sg) (s : Int64) (k : Nat) : Int64 := mx (mx (mx (mx (mx (mx s (mlk σ k 0 0)) (mlk σ k 0 1)) (mlk σ k 1 0)) (mlk σ k 1 1)) (mlk σ k 2 0)) (mlk σ k 2 1)
def mdT (σ : sg) (s : Int64) : Int64 := mx (mx (mx (mx s (gB σ 7 1).toInt64) (gB σ 7 2).toInt64) (gB σ 7 3).toInt64) (gB σ 7 4).toInt64
def mdC (σ : sg) (s : Int64) : Int64 := mx (mx (mx (mx (mx (mdL σ (mdL σ (mdT σ s) 1) 6) (lkM σ).toInt64) (nI (wyM σ)).toInt64) (msr σ 1).toInt64) (mlo σ 2 5 0)) (mlo σ 2 5 1)
def mdW (σ : sg) (s : Int64) : Int64 := mx (mx (mx (mx (mx (mx s (nI (wrS σ 0)).toInt64) (nI (wrS σ 1)).toInt64) (nI (wrS σ 2)).toInt64) (nI (wrS σ 3)).toInt64) (nI (wrS σ 4)).toInt64) (cEarliest σ).toInt64
noncomputable def mDigest (σ : sg) : Int64 := dgN (cCount σ) (dgG (gB σ 17) (mdW σ (if gN σ 0 = 0 then mdP σ 821 (gN σ 8) else mdC σ (mdP σ 821 (gN σ 8)))) (gN σ 16))
set_option maxHeartbeats 4000000 in
set_option maxRecDepth 100000 in
theorem k_X12_mix (l : Launch) (D : va_G) (b z : Nat) {h : qH} {m : Nat} {σ : sg} {s18 s35 : Int64} {s19 s20 s23 s24 : Int32} {f21 f22 : Nat → Int32} (hM : MdO h m σ s18 s19 s20 s23 s24 s35) (hR : MdR D h m σ f21 f22) (v : Int64) : qMv l D b yX12_mix cX12_mix 3 0 0 [.ref (m), .long (v)] h z (fun h' => MdO h' m σ s18 s19 s20 s23 s24 (mx s35 v) ∧ MdR D h' m σ f21 f22 ∧ ∀ q, (q < m ∨ m + 16 ≤ q) → h' q = h q) := by
  refine q_v (L := [(0, .ref (m)), (1, .long (v))]) (own := RX12) (by decide) rfl (Nat.le_of_ble_eq_true rfl) rfl ?_
  intro X C ret
  have hO : ∀ q, (q < m ∨ m + 16 ≤ q) → h q = h q := fun _ _ => rfl
  refine g_aload_n C 0 dX12_mix_0 rfl rfl rfl ?_
  refine g_ldc2 C kl_12_236 dX12_mix_1 rfl ?_
  refine g_aload_n C 0 dX12_mix_4 rfl rfl rfl ?_
  refine gf_12_238 C (hM) (v := .long (s35)) rfl dX12_mix_5 rfl ?_
  refine g_lmul C dX12_mix_8 rfl ?_
  refine g_lload_n C 1 dX12_mix_9 rfl rfl rfl ?_
  refine g_ladd C dX12_mix_10 rfl ?_
  refine pf_12_238 C (hM) (v := .long (((31) * (s35)) + (v))) rfl rfl (Nat.le_of_ble_eq_true rfl) dX12_mix_11 (pc' := 14) rfl (fun h1 e2 o3 => ?_)
  have hM : MdO h1 m (σ) (s18) (s19) (s20) (s23) (s24) (((31) * (s35)) + (v)) := e2
  have hR : MdR D h1 m (σ) (f21) (f22) := hR.fr (fun q g1 g2 => o3 q (by omega))
  have hO : ∀ q, (q < m ∨ m + 16 ≤ q) → h1 q = h q := fun q hq => (o3 q (by omega)).trans (hO q hq)
  exact ret _ _ _ dX12_mix_14 (⟨hM, hR, hO⟩)
set_option maxHeartbeats 4000000 in
set_option maxRecDepth 100000 in
theorem k_X12_mixLikely (l : Launch) (D : va_G) (b z : Nat) {h : qH} {m : Nat} {σ : sg} {s18 s35 : Int64} {s19 s20 s23 s24 : Int32} {f21 f22 : Nat → Int32} (hM : MdO h m σ s18 s19 s20 s23 s24 s35) (hR : MdR D h m σ f21 f22) (h6 : gN σ 6 < 3) (hn4 : gN σ 4 < 10) (hIt : ∀ i, i < 9 → gA σ 2 i ≤ 10) (hTot : 0 < wgN σ 1 (-1)) {k : Nat} (hk : k ≤ 6) : qMv l D b yX12_mixLikely cX12_mixLikely 3 4 97 [.ref (m), .int (nI (k))] h z (fun h' => MdO h' m σ s18 s19 s20 s23 s24 (mdL σ s35 k) ∧ MdR D h' m σ f21 f22 ∧ ∀ q, (q < m ∨ m + 16 ≤ q) → h' q = h q) := by
  refine q_v (L := [(0, .ref (m)), (1, .int (nI (k)))]) (own := RX12) (by decide) rfl (Nat.le_of_ble_eq_true rfl) rfl ?_
  intro X C ret
  have hO : ∀ q, (q < m ∨ m + 16 ≤ q) → h q = h q := fun _ _ => rfl
  refine g_iconst C (v := 0) dX12_mixLikely_0 (by decide) rfl ?_
  refine g_istore_n C ([(2, .int (0)), (0, .ref (m)), (1, .int (nI (k)))]) dX12_mixLikely_1 rfl (by decide) rfl rfl ?_
  refine g_iload_n C 0 dX12_mixLikely_2 rfl rfl rfl ?_
  refine g_iconst C (v := 3) dX12_mixLikely_3 (by decide) rfl ?_
  refine g_icmp_ge C dX12_mixLikely_4 (tgt := 35) (by decide) (pc' := 7) rfl (fun c4 => absurd c4 (by decide)) (fun _ => ?_)
  refine g_aload_n C 1 dX12_mixLikely_7 rfl rfl rfl ?_
  refine g_aload_n C 1 dX12_mixLikely_8 rfl rfl rfl ?_
  refine g_iload_n C 2 dX12_mixLikely_9 rfl rfl rfl ?_
  refine g_iload_n C 0 dX12_mixLikely_10 rfl rfl rfl ?_
  refine g_iconst C (v := 0) dX12_mixLikely_11 (by decide) rfl ?_
  refine g_callVl C (As := [.int (nI (k)), .int (0), .int (0)]) (q := (RX12, TX12, 36)) (k_X12_likelyNow l D b z hM hR h6 hn4 hIt hTot (k := k) (by omega) (0) (0)) hw_12_143 (hM) rfl (by decide) rfl rfl (Nat.le_of_ble_eq_true rfl) ⟨Nat.zero_le _, Nat.zero_le _⟩ dX12_mixLikely_12 (pc' := 15) rfl ?_
  rintro r1 h9 ⟨er, e9⟩
  replace er : r1 = mlk σ (k) 0 0 := er
  subst h9; rw [er]
  refine g_callVv C (As := [.long (mlk σ (k) 0 0)]) (q := (RX12, TX12, 36)) (k_X12_mix l D b z hM hR (mlk σ (k) 0 0)) hw_12_241 (hM) rfl (by decide) rfl rfl (Nat.le_of_ble_eq_true rfl) ⟨Nat.zero_le _, Nat.zero_le _⟩ dX12_mixLikely_15 (pc' := 18) rfl ?_
  rintro h2 ⟨hM, hR, fr3⟩
  have hO : ∀ q, (q < m ∨ m + 16 ≤ q) → h2 q = h q := fun q hq => (fr3 q (by omega)).trans (hO q hq)
  refine g_aload_n C 1 dX12_mixLikely_18 rfl rfl rfl ?_
  refine g_aload_n C 1 dX12_mixLikely_19 rfl rfl rfl ?_
  refine g_iload_n C 2 dX12_mixLikely_20 rfl rfl rfl ?_
  refine g_iload_n C 0 dX12_mixLikely_21 rfl rfl rfl ?_
  refine g_iconst C (v := 1) dX12_mixLikely_22 (by decide) rfl ?_
  refine g_callVl C (As := [.int (nI (k)), .int (0), .int (1)]) (q := (RX12, TX12, 36)) (k_X12_likelyNow l D b z hM hR h6 hn4 hIt hTot (k := k) (by omega) (0) (1)) hw_12_143 (hM) rfl (by decide) rfl rfl (Nat.le_of_ble_eq_true rfl) ⟨Nat.zero_le _, Nat.zero_le _⟩ dX12_mixLikely_23 (pc' := 26) rfl ?_
  rintro r4 h9 ⟨er, e9⟩
  replace er : r4 = mlk σ (k) 0 1 := er
  subst h9; rw [er]
  refine g_callVv C (As := [.long (mlk σ (k) 0 1)]) (q := (RX12, TX12, 36)) (k_X12_mix l D b z hM hR (mlk σ (k) 0 1)) hw_12_241 (hM) rfl (by decide) rfl rfl (Nat.le_of_ble_eq_true rfl) ⟨Nat.zero_le _, Nat.zero_le _⟩ dX12_mixLikely_26 (pc' := 29) rfl ?_
  rintro h5 ⟨hM, hR, fr6⟩
  have hO : ∀ q, (q < m ∨ m + 16 ≤ q) → h5 q = h q := fun q hq => (fr6 q (by omega)).trans (hO q hq)
  refine g_iinc C (v := 1) 0 ([(2, .int (1)), (0, .ref (m)), (1, .int (nI (k)))]) dX12_mixLikely_29 rfl (by decide) (by decide) rfl rfl ?_
  refine g_goto C dX12_mixLikely_32 (tgt := 2) (by decide) ?_
  refine g_iload_n C 0 dX12_mixLikely_2 rfl rfl rfl ?_
  refine g_iconst C (v := 3) dX12_mixLikely_3 (by decide) rfl ?_
  refine g_icmp_ge C dX12_mixLikely_4 (tgt := 35) (by decide) (pc' := 7) rfl (fun c4 => absurd c4 (by decide)) (fun _ => ?_)
  refine g_aload_n C 1 dX12_mixLikely_7 rfl rfl rfl ?_
  refine g_aload_n C 1 dX12_mixLikely_8 rfl rfl rfl ?_
  refine g_iload_n C 2 dX12_mixLikely_9 rfl rfl rfl ?_
  refine g_iload_n C 0 dX12_mixLikely_10 rfl rfl rfl ?_
  refine g_iconst C (v := 0) dX12_mixLikely_11 (by decide) rfl ?_
  refine g_callVl C (As := [.int (nI (k)), .int (1), .int (0)]) (q := (RX12, TX12, 36)) (k_X12_likelyNow l D b z hM hR h6 hn4 hIt hTot (k := k) (by omega) (1) (0)) hw_12_143 (hM) rfl (by decide) rfl rfl (Nat.le_of_ble_eq_true rfl) ⟨Nat.zero_le _, Nat.zero_le _⟩ dX12_mixLikely_12 (pc' := 15) rfl ?_
  rintro r7 h9 ⟨er, e9⟩
  replace er : r7 = mlk σ (k) 1 0 := er
  subst h9; rw [er]
  refine g_callVv C (As := [.long (mlk σ (k) 1 0)]) (q := (RX12, TX12, 36)) (k_X12_mix l D b z hM hR (mlk σ (k) 1 0)) hw_12_241 (hM) rfl (by decide) rfl rfl (Nat.le_of_ble_eq_true rfl) ⟨Nat.zero_le _, Nat.zero_le _⟩ dX12_mixLikely_15 (pc' := 18) rfl ?_
  rintro h8 ⟨hM, hR, fr9⟩
  have hO : ∀ q, (q < m ∨ m + 16 ≤ q) → h8 q = h q := fun q hq => (fr9 q (by omega)).trans (hO q hq)
  refine g_aload_n C 1 dX12_mixLikely_18 rfl rfl rfl ?_
  refine g_aload_n C 1 dX12_mixLikely_19 rfl rfl rfl ?_
  refine g_iload_n C 2 dX12_mixLikely_20 rfl rfl rfl ?_
  refine g_iload_n C 0 dX12_mixLikely_21 rfl rfl rfl ?_
  refine g_iconst C (v := 1) dX12_mixLikely_22 (by decide) rfl ?_
  refine g_callVl C (As := [.int (nI (k)), .int (1), .int (1)]) (q := (RX12, TX12, 36)) (k_X12_likelyNow l D b z hM hR h6 hn4 hIt hTot (k := k) (by omega) (1) (1)) hw_12_143 (hM) rfl (by decide) rfl rfl (Nat.le_of_ble_eq_true rfl) ⟨Nat.zero_le _, Nat.zero_le _⟩ dX12_mixLikely_23 (pc' := 26) rfl ?_
  rintro r10 h9 ⟨er, e9⟩
  replace er : r10 = mlk σ (k) 1 1 := er
  subst h9; rw [er]
  refine g_callVv C (As := [.long (mlk σ (k) 1 1)]) (q := (RX12, TX12, 36)) (k_X12_mix l D b z hM hR (mlk σ (k) 1 1)) hw_12_241 (hM) rfl (by decide) rfl rfl (Nat.le_of_ble_eq_true rfl) ⟨Nat.zero_le _, Nat.zero_le _⟩ dX12_mixLikely_26 (pc' := 29) rfl ?_
  rintro h11 ⟨hM, hR, fr12⟩
  have hO : ∀ q, (q < m ∨ m + 16 ≤ q) → h11 q = h q := fun q hq => (fr12 q (by omega)).trans (hO q hq)
  refine g_iinc C (v := 2) 0 ([(2, .int (2)), (0, .ref (m)), (1, .int (nI (k)))]) dX12_mixLikely_29 rfl (by decide) (by decide) rfl rfl ?_
  refine g_goto C dX12_mixLikely_32 (tgt := 2) (by decide) ?_
  refine g_iload_n C 0 dX12_mixLikely_2 rfl rfl rfl ?_
  refine g_iconst C (v := 3) dX12_mixLikely_3 (by decide) rfl ?_
  refine g_icmp_ge C dX12_mixLikely_4 (tgt := 35) (by decide) (pc' := 7) rfl (fun c4 => absurd c4 (by decide)) (fun _ => ?_)
  refine g_aload_n C 1 dX12_mixLikely_7 rfl rfl rfl ?_
  refine g_aload_n C 1 dX12_mixLikely_8 rfl rfl rfl ?_
  refine g_iload_n C 2 dX12_mixLikely_9 rfl rfl rfl ?_
  refine g_iload_n C 0 dX12_mixLikely_10 rfl rfl rfl ?_
  refine g_iconst C (v := 0) dX12_mixLikely_11 (by decide) rfl ?_
  refine g_callVl C (As := [.int (nI (k)), .int (2), .int (0)]) (q := (RX12, TX12, 36)) (k_X12_likelyNow l D b z hM hR h6 hn4 hIt hTot (k := k) (by omega) (2) (0)) hw_12_143 (hM) rfl (by decide) rfl rfl (Nat.le_of_ble_eq_true rfl) ⟨Nat.zero_le _, Nat.zero_le _⟩ dX12_mixLikely_12 (pc' := 15) rfl ?_
  rintro r13 h9 ⟨er, e9⟩
  replace er : r13 = mlk σ (k) 2 0 := er
  subst h9; rw [er]
  refine g_callVv C (As := [.long (mlk σ (k) 2 0)]) (q := (RX12, TX12, 36)) (k_X12_mix l D b z hM hR (mlk σ (k) 2 0)) hw_12_241 (hM) rfl (by decide) rfl rfl (Nat.le_of_ble_eq_true rfl) ⟨Nat.zero_le _, Nat.zero_le _⟩ dX12_mixLikely_15 (pc' := 18) rfl ?_
  rintro h14 ⟨hM, hR, fr15⟩
  have hO : ∀ q, (q < m ∨ m + 16 ≤ q) → h14 q = h q := fun q hq => (fr15 q (by omega)).trans (hO q hq)
  refine g_aload_n C 1 dX12_mixLikely_18 rfl rfl rfl ?_
  refine g_aload_n C 1 dX12_mixLikely_19 rfl rfl rfl ?_
  refine g_iload_n C 2 dX12_mixLikely_20 rfl rfl rfl ?_
  refine g_iload_n C 0 dX12_mixLikely_21 rfl rfl rfl ?_
  refine g_iconst C (v := 1) dX12_mixLikely_22 (by decide) rfl ?_
  refine g_callVl C (As := [.int (nI (k)), .int (2), .int (1)]) (q := (RX12, TX12, 36)) (k_X12_likelyNow l D b z hM hR h6 hn4 hIt hTot (k := k) (by omega) (2) (1)) hw_12_143 (hM) rfl (by decide) rfl rfl (Nat.le_of_ble_eq_true rfl) ⟨Nat.zero_le _, Nat.zero_le _⟩ dX12_mixLikely_23 (pc' := 26) rfl ?_
  rintro r16 h9 ⟨er, e9⟩
  replace er : r16 = mlk σ (k) 2 1 := er
  subst h9; rw [er]
  refine g_callVv C (As := [.long (mlk σ (k) 2 1)]) (q := (RX12, TX12, 36)) (k_X12_mix l D b z hM hR (mlk σ (k) 2 1)) hw_12_241 (hM) rfl (by decide) rfl rfl (Nat.le_of_ble_eq_true rfl) ⟨Nat.zero_le _, Nat.zero_le _⟩ dX12_mixLikely_26 (pc' := 29) rfl ?_
  rintro h17 ⟨hM, hR, fr18⟩
  have hO : ∀ q, (q < m ∨ m + 16 ≤ q) → h17 q = h q := fun q hq => (fr18 q (by omega)).trans (hO q hq)
  refine g_iinc C (v := 3) 0 ([(2, .int (3)), (0, .ref (m)), (1, .int (nI (k)))]) dX12_mixLikely_29 rfl (by decide) (by decide) rfl rfl ?_
  refine g_goto C dX12_mixLikely_32 (tgt := 2) (by decide) ?_
  refine g_iload_n C 0 dX12_mixLikely_2 rfl rfl rfl ?_
  refine g_iconst C (v := 3) dX12_mixLikely_3 (by decide) rfl ?_
  refine g_icmp_ge C dX12_mixLikely_4 (tgt := 35) (by decide) (pc' := 7) rfl (fun _ => ?_) (fun c4 => absurd (by decide) c4)
  exact ret _ _ _ dX12_mixLikely_35 (⟨hM, hR, hO⟩)
set_option maxHeartbeats 4000000 in
set_option maxRecDepth 100000 in
theorem k_X12_digest (l : Launch) (D : va_G) (b z : Nat) {h : qH} {m : Nat} {σ : sg} {s18 s35 : Int64} {s19 s20 s23 s24 : Int32} {f21 f22 : Nat → Int32} (hM : MdO h m σ s18 s19 s20 s23 s24 s35) (hR : MdR D h m σ f21 f22) (h0 : gN σ 0 ≤ 1) (h6 : gN σ 6 < 3) (hn4 : gN σ 4 < 10) (hIt : ∀ i, i < 9 → gA σ 2 i ≤ 10) (h13 : gN σ 13 ≤ 12) (h16 : gN σ 16 ≤ 16) (hn8 : gN σ 8 ≤ 4) (hTot : gN σ 0 = 1 → 0 < wgN σ 1 (-1)) : qMl l D b yX12_digest cX12_digest 3 5 119 [.ref (m)] h z (fun r0 h' => r0 = mDigest σ ∧ MdlAt D h' m σ ∧ ∀ q, (q < m ∨ m + 16 ≤ q) → h' q = h q) := by
  refine q_l (L := [(0, .ref (m))]) (own := RX12) (by decide) rfl (Nat.le_of_ble_eq_true rfl) rfl ?_
  intro X C ret
  have hO : ∀ q, (q < m ∨ m + 16 ≤ q) → h q = h q := fun _ _ => rfl
  refine g_aload_n C 0 dX12_digest_0 rfl rfl rfl ?_
  refine g_ldc2 C kl_12_245 dX12_digest_1 rfl ?_
  refine pf_12_238 C (hM) (v := .long (821)) rfl rfl (Nat.le_of_ble_eq_true rfl) dX12_digest_4 (pc' := 7) rfl (fun h1 e2 o3 => ?_)
  have hM : MdO h1 m (σ) (s18) (s19) (s20) (s23) (s24) (821) := e2
  have hR : MdR D h1 m (σ) (f21) (f22) := hR.fr (fun q g1 g2 => o3 q (by omega))
  have hO : ∀ q, (q < m ∨ m + 16 ≤ q) → h1 q = h q := fun q hq => (o3 q (by omega)).trans (hO q hq)
  refine g_iconst C (v := 0) dX12_digest_7 (by decide) rfl ?_
  refine g_istore_n C ([(1, .int (0)), (0, .ref (m))]) dX12_digest_8 rfl (by decide) rfl rfl ?_
  have loop9 : ∀ (N : Nat) (i : Nat) (h1 : qH) (hh : Int64), 5 - i < N → (i ≤ gN σ 8) → (hh = mdP σ 821 i) → (MdO h1 m σ s18 s19 s20 s23 s24 hh) → (MdR D h1 m σ f21 f22) → (∀ q, (q < m ∨ m + 16 ≤ q) → h1 q = h q) → qG X 0 0 z h1 9 [(1, .int (nI (i))), (0, .ref (m))] [] := by
    intro N
    induction N with
    | zero => intro i h1 hh hm; exact absurd hm (Nat.not_lt_zero _)
    | succ N ih9 =>
      intro i h1 hh hm hi hhe hM hR hO
      refine g_iload_n C 0 dX12_digest_9 rfl rfl rfl ?_
      refine g_aload_n C 1 dX12_digest_10 rfl rfl rfl ?_
      refine gf_12_95 C (hM) (v := .int (nI (gN σ 8))) rfl dX12_digest_11 rfl ?_
      refine g_icmp_ge C dX12_digest_14 (tgt := 47) (by decide) (pc' := 17) rfl ?_ ?_
      · intro c14
        replace c14 := (nI_leI (a := gN σ 8) (b := i) (by omega) (by omega)).mp c14
        obtain ⟨b0, b0E⟩ : ∃ b9 : Int64, b9 = hh := ⟨_, rfl⟩
        have hM : MdO h1 m (σ) (s18) (s19) (s20) (s23) (s24) (b0) := by rw [b0E]; exact hM
        replace b0E : b0 = mdP σ 821 (gN σ 8) := by rw [b0E]; rw [hhe, show i = gN σ 8 by omega]
        refine g_aload_n C 1 dX12_digest_47 rfl rfl rfl ?_
        refine gf_12_82 C (hM) (v := .int (nI (gN σ 0))) rfl dX12_digest_48 rfl ?_
        refine g_if_eq C dX12_digest_51 (tgt := 139) (by decide) (pc' := 54) rfl ?_ ?_
        · intro c51
          replace c51 := (nI_eq (a := gN σ 0) (b := 0) (by omega) (by omega)).mp c51
          obtain ⟨b1, b1E⟩ : ∃ b9 : Int64, b9 = b0 := ⟨_, rfl⟩
          have hM : MdO h1 m (σ) (s18) (s19) (s20) (s23) (s24) (b1) := by rw [b1E]; exact hM
          replace b1E : b1 = (if gN σ 0 = 0 then mdP σ 821 (gN σ 8) else mdC σ (mdP σ 821 (gN σ 8))) := by rw [b1E]; rw [if_pos c51]; exact b0E
          refine g_iconst C (v := 0) dX12_digest_139 (by decide) rfl ?_
          refine g_istore_n C ([(1, .int (0)), (0, .ref (m))]) dX12_digest_140 rfl (by decide) rfl rfl ?_
          refine g_iload_n C 0 dX12_digest_141 rfl rfl rfl ?_
          refine g_iconst C (v := 5) dX12_digest_142 (by decide) rfl ?_
          refine g_icmp_ge C dX12_digest_143 (tgt := 163) (by decide) (pc' := 146) rfl (fun c143 => absurd c143 (by decide)) (fun _ => ?_)
          refine g_aload_n C 1 dX12_digest_146 rfl rfl rfl ?_
          refine g_aload_n C 1 dX12_digest_147 rfl rfl rfl ?_
          refine g_iload_n C 0 dX12_digest_148 rfl rfl rfl ?_
          refine g_iconst C (v := 1) dX12_digest_149 (by decide) rfl ?_
          refine g_callVi C (As := [.int (0), .int (1)]) (q := (RX12, TX12, 36)) (kw_X12_lookedAt l D b z hM hR h13 (y := 0) (by omega)) hw_12_169 (hM) rfl (by decide) rfl rfl (Nat.le_of_ble_eq_true rfl) ⟨Nat.zero_le _, Nat.zero_le _⟩ dX12_digest_150 (pc' := 153) rfl ?_
          rintro r4 h9 ⟨er, e9⟩
          replace er : r4 = nI (wrS σ 0) := er
          subst h9; rw [er]
          refine g_i2l C dX12_digest_153 rfl ?_
          refine g_callVv C (As := [.long ((nI (wrS σ 0)).toInt64)]) (q := (RX12, TX12, 36)) (k_X12_mix l D b z hM hR ((nI (wrS σ 0)).toInt64)) hw_12_241 (hM) rfl (by decide) rfl rfl (Nat.le_of_ble_eq_true rfl) ⟨Nat.zero_le _, Nat.zero_le _⟩ dX12_digest_154 (pc' := 157) rfl ?_
          rintro h5 ⟨hM, hR, fr6⟩
          have hO : ∀ q, (q < m ∨ m + 16 ≤ q) → h5 q = h q := fun q hq => (fr6 q (by omega)).trans (hO q hq)
          refine g_iinc C (v := 1) 0 ([(1, .int (1)), (0, .ref (m))]) dX12_digest_157 rfl (by decide) (by decide) rfl rfl ?_
          refine g_goto C dX12_digest_160 (tgt := 141) (by decide) ?_
          refine g_iload_n C 0 dX12_digest_141 rfl rfl rfl ?_
          refine g_iconst C (v := 5) dX12_digest_142 (by decide) rfl ?_
          refine g_icmp_ge C dX12_digest_143 (tgt := 163) (by decide) (pc' := 146) rfl (fun c143 => absurd c143 (by decide)) (fun _ => ?_)
          refine g_aload_n C 1 dX12_digest_146 rfl rfl rfl ?_
          refine g_aload_n C 1 dX12_digest_147 rfl rfl rfl ?_
          refine g_iload_n C 0 dX12_digest_148 rfl rfl rfl ?_
          refine g_iconst C (v := 1) dX12_digest_149 (by decide) rfl ?_
          refine g_callVi C (As := [.int (1), .int (1)]) (q := (RX12, TX12, 36)) (kw_X12_lookedAt l D b z hM hR h13 (y := 1) (by omega)) hw_12_169 (hM) rfl (by decide) rfl rfl (Nat.le_of_ble_eq_true rfl) ⟨Nat.zero_le _, Nat.zero_le _⟩ dX12_digest_150 (pc' := 153) rfl ?_
          rintro r7 h9 ⟨er, e9⟩
          replace er : r7 = nI (wrS σ 1) := er
          subst h9; rw [er]
          refine g_i2l C dX12_digest_153 rfl ?_
          refine g_callVv C (As := [.long ((nI (wrS σ 1)).toInt64)]) (q := (RX12, TX12, 36)) (k_X12_mix l D b z hM hR ((nI (wrS σ 1)).toInt64)) hw_12_241 (hM) rfl (by decide) rfl rfl (Nat.le_of_ble_eq_true rfl) ⟨Nat.zero_le _, Nat.zero_le _⟩ dX12_digest_154 (pc' := 157) rfl ?_
          rintro h8 ⟨hM, hR, fr9⟩
          have hO : ∀ q, (q < m ∨ m + 16 ≤ q) → h8 q = h q := fun q hq => (fr9 q (by omega)).trans (hO q hq)
          refine g_iinc C (v := 2) 0 ([(1, .int (2)), (0, .ref (m))]) dX12_digest_157 rfl (by decide) (by decide) rfl rfl ?_
          refine g_goto C dX12_digest_160 (tgt := 141) (by decide) ?_
          refine g_iload_n C 0 dX12_digest_141 rfl rfl rfl ?_
          refine g_iconst C (v := 5) dX12_digest_142 (by decide) rfl ?_
          refine g_icmp_ge C dX12_digest_143 (tgt := 163) (by decide) (pc' := 146) rfl (fun c143 => absurd c143 (by decide)) (fun _ => ?_)
          refine g_aload_n C 1 dX12_digest_146 rfl rfl rfl ?_
          refine g_aload_n C 1 dX12_digest_147 rfl rfl rfl ?_
          refine g_iload_n C 0 dX12_digest_148 rfl rfl rfl ?_
          refine g_iconst C (v := 1) dX12_digest_149 (by decide) rfl ?_
          refine g_callVi C (As := [.int (2), .int (1)]) (q := (RX12, TX12, 36)) (kw_X12_lookedAt l D b z hM hR h13 (y := 2) (by omega)) hw_12_169 (hM) rfl (by decide) rfl rfl (Nat.le_of_ble_eq_true rfl) ⟨Nat.zero_le _, Nat.zero_le _⟩ dX12_digest_150 (pc' := 153) rfl ?_
          rintro r10 h9 ⟨er, e9⟩
          replace er : r10 = nI (wrS σ 2) := er
          subst h9; rw [er]
          refine g_i2l C dX12_digest_153 rfl ?_
          refine g_callVv C (As := [.long ((nI (wrS σ 2)).toInt64)]) (q := (RX12, TX12, 36)) (k_X12_mix l D b z hM hR ((nI (wrS σ 2)).toInt64)) hw_12_241 (hM) rfl (by decide) rfl rfl (Nat.le_of_ble_eq_true rfl) ⟨Nat.zero_le _, Nat.zero_le _⟩ dX12_digest_154 (pc' := 157) rfl ?_
          rintro h11 ⟨hM, hR, fr12⟩
          have hO : ∀ q, (q < m ∨ m + 16 ≤ q) → h11 q = h q := fun q hq => (fr12 q (by omega)).trans (hO q hq)
          refine g_iinc C (v := 3) 0 ([(1, .int (3)), (0, .ref (m))]) dX12_digest_157 rfl (by decide) (by decide) rfl rfl ?_
          refine g_goto C dX12_digest_160 (tgt := 141) (by decide) ?_
          refine g_iload_n C 0 dX12_digest_141 rfl rfl rfl ?_
          refine g_iconst C (v := 5) dX12_digest_142 (by decide) rfl ?_
          refine g_icmp_ge C dX12_digest_143 (tgt := 163) (by decide) (pc' := 146) rfl (fun c143 => absurd c143 (by decide)) (fun _ => ?_)
          refine g_aload_n C 1 dX12_digest_146 rfl rfl rfl ?_
          refine g_aload_n C 1 dX12_digest_147 rfl rfl rfl ?_
          refine g_iload_n C 0 dX12_digest_148 rfl rfl rfl ?_
          refine g_iconst C (v := 1) dX12_digest_149 (by decide) rfl ?_
          refine g_callVi C (As := [.int (3), .int (1)]) (q := (RX12, TX12, 36)) (kw_X12_lookedAt l D b z hM hR h13 (y := 3) (by omega)) hw_12_169 (hM) rfl (by decide) rfl rfl (Nat.le_of_ble_eq_true rfl) ⟨Nat.zero_le _, Nat.zero_le _⟩ dX12_digest_150 (pc' := 153) rfl ?_
          rintro r13 h9 ⟨er, e9⟩
          replace er : r13 = nI (wrS σ 3) := er
          subst h9; rw [er]
          refine g_i2l C dX12_digest_153 rfl ?_
          refine g_callVv C (As := [.long ((nI (wrS σ 3)).toInt64)]) (q := (RX12, TX12, 36)) (k_X12_mix l D b z hM hR ((nI (wrS σ 3)).toInt64)) hw_12_241 (hM) rfl (by decide) rfl rfl (Nat.le_of_ble_eq_true rfl) ⟨Nat.zero_le _, Nat.zero_le _⟩ dX12_digest_154 (pc' := 157) rfl ?_
          rintro h14 ⟨hM, hR, fr15⟩
          have hO : ∀ q, (q < m ∨ m + 16 ≤ q) → h14 q = h q := fun q hq => (fr15 q (by omega)).trans (hO q hq)
          refine g_iinc C (v := 4) 0 ([(1, .int (4)), (0, .ref (m))]) dX12_digest_157 rfl (by decide) (by decide) rfl rfl ?_
          refine g_goto C dX12_digest_160 (tgt := 141) (by decide) ?_
          refine g_iload_n C 0 dX12_digest_141 rfl rfl rfl ?_
          refine g_iconst C (v := 5) dX12_digest_142 (by decide) rfl ?_
          refine g_icmp_ge C dX12_digest_143 (tgt := 163) (by decide) (pc' := 146) rfl (fun c143 => absurd c143 (by decide)) (fun _ => ?_)
          refine g_aload_n C 1 dX12_digest_146 rfl rfl rfl ?_
          refine g_aload_n C 1 dX12_digest_147 rfl rfl rfl ?_
          refine g_iload_n C 0 dX12_digest_148 rfl rfl rfl ?_
          refine g_iconst C (v := 1) dX12_digest_149 (by decide) rfl ?_
          refine g_callVi C (As := [.int (4), .int (1)]) (q := (RX12, TX12, 36)) (kw_X12_lookedAt l D b z hM hR h13 (y := 4) (by omega)) hw_12_169 (hM) rfl (by decide) rfl rfl (Nat.le_of_ble_eq_true rfl) ⟨Nat.zero_le _, Nat.zero_le _⟩ dX12_digest_150 (pc' := 153) rfl ?_
          rintro r16 h9 ⟨er, e9⟩
          replace er : r16 = nI (wrS σ 4) := er
          subst h9; rw [er]
          refine g_i2l C dX12_digest_153 rfl ?_
          refine g_callVv C (As := [.long ((nI (wrS σ 4)).toInt64)]) (q := (RX12, TX12, 36)) (k_X12_mix l D b z hM hR ((nI (wrS σ 4)).toInt64)) hw_12_241 (hM) rfl (by decide) rfl rfl (Nat.le_of_ble_eq_true rfl) ⟨Nat.zero_le _, Nat.zero_le _⟩ dX12_digest_154 (pc' := 157) rfl ?_
          rintro h17 ⟨hM, hR, fr18⟩
          have hO : ∀ q, (q < m ∨ m + 16 ≤ q) → h17 q = h q := fun q hq => (fr18 q (by omega)).trans (hO q hq)
          refine g_iinc C (v := 5) 0 ([(1, .int (5)), (0, .ref (m))]) dX12_digest_157 rfl (by decide) (by decide) rfl rfl ?_
          refine g_goto C dX12_digest_160 (tgt := 141) (by decide) ?_
          refine g_iload_n C 0 dX12_digest_141 rfl rfl rfl ?_
          refine g_iconst C (v := 5) dX12_digest_142 (by decide) rfl ?_
          refine g_icmp_ge C dX12_digest_143 (tgt := 163) (by decide) (pc' := 146) rfl (fun _ => ?_) (fun c143 => absurd (by decide) c143)
          refine g_aload_n C 1 dX12_digest_163 rfl rfl rfl ?_
          refine g_aload_n C 1 dX12_digest_164 rfl rfl rfl ?_
          refine g_callVi C (As := []) (q := (RX12, TX12, 36)) (k_X12_earliestNow l D b z hM hR h13) hw_12_172 (hM) rfl (by decide) rfl rfl (Nat.le_of_ble_eq_true rfl) ⟨Nat.zero_le _, Nat.zero_le _⟩ dX12_digest_165 (pc' := 168) rfl ?_
          rintro r19 h9 ⟨er, e9⟩
          replace er : r19 = cEarliest σ := er
          subst h9; rw [er]
          refine g_i2l C dX12_digest_168 rfl ?_
          refine g_callVv C (As := [.long ((cEarliest σ).toInt64)]) (q := (RX12, TX12, 36)) (k_X12_mix l D b z hM hR ((cEarliest σ).toInt64)) hw_12_241 (hM) rfl (by decide) rfl rfl (Nat.le_of_ble_eq_true rfl) ⟨Nat.zero_le _, Nat.zero_le _⟩ dX12_digest_169 (pc' := 172) rfl ?_
          rintro h20 ⟨hM, hR, fr21⟩
          have hO : ∀ q, (q < m ∨ m + 16 ≤ q) → h20 q = h q := fun q hq => (fr21 q (by omega)).trans (hO q hq)
          obtain ⟨b2, b2E⟩ : ∃ b9 : Int64, b9 = mx (mx (mx (mx (mx (mx (b1) ((nI (wrS σ 0)).toInt64)) ((nI (wrS σ 1)).toInt64)) ((nI (wrS σ 2)).toInt64)) ((nI (wrS σ 3)).toInt64)) ((nI (wrS σ 4)).toInt64)) ((cEarliest σ).toInt64) := ⟨_, rfl⟩
          have hM : MdO h20 m (σ) (s18) (s19) (s20) (s23) (s24) (b2) := by rw [b2E]; exact hM
          replace b2E : b2 = mdW σ b1 := by rw [b2E]; unfold mdW; rfl
          refine g_iconst C (v := 0) dX12_digest_172 (by decide) rfl ?_
          refine g_istore_n C ([(1, .int (0)), (0, .ref (m))]) dX12_digest_173 rfl (by decide) rfl rfl ?_
          have loop174 : ∀ (N : Nat) (i : Nat) (h1 : qH) (hh : Int64), 17 - i < N → (i ≤ gN σ 16) → (hh = dgG (gB σ 17) b2 i) → (MdO h1 m σ s18 s19 s20 s23 s24 hh) → (MdR D h1 m σ f21 f22) → (∀ q, (q < m ∨ m + 16 ≤ q) → h1 q = h q) → qG X 0 0 z h1 174 [(1, .int (nI (i))), (0, .ref (m))] [] := by
            intro N
            induction N with
            | zero => intro i h1 hh hm; exact absurd hm (Nat.not_lt_zero _)
            | succ N ih174 =>
              intro i h1 hh hm hi hhe hM hR hO
              refine g_iload_n C 0 dX12_digest_174 rfl rfl rfl ?_
              refine g_aload_n C 1 dX12_digest_175 rfl rfl rfl ?_
              refine gf_12_60 C (hM) (v := .int (nI (gN σ 16))) rfl dX12_digest_176 rfl ?_
              refine g_icmp_ge C dX12_digest_179 (tgt := 199) (by decide) (pc' := 182) rfl ?_ ?_
              · intro c179
                replace c179 := (nI_leI (a := gN σ 16) (b := i) (by omega) (by omega)).mp c179
                obtain ⟨b3, b3E⟩ : ∃ b9 : Int64, b9 = hh := ⟨_, rfl⟩
                have hM : MdO h1 m (σ) (s18) (s19) (s20) (s23) (s24) (b3) := by rw [b3E]; exact hM
                replace b3E : b3 = dgG (gB σ 17) b2 (gN σ 16) := by rw [b3E]; rw [hhe, show i = gN σ 16 by omega]
                refine g_iconst C (v := 0) dX12_digest_199 (by decide) rfl ?_
                refine g_istore_n C ([(1, .int (0)), (0, .ref (m))]) dX12_digest_200 rfl (by decide) rfl rfl ?_
                refine g_iload_n C 0 dX12_digest_201 rfl rfl rfl ?_
                refine g_bipush C (v := 10) dX12_digest_202 (by decide) rfl ?_
                refine g_icmp_ge C dX12_digest_204 (tgt := 223) (by decide) (pc' := 207) rfl (fun c204 => absurd c204 (by decide)) (fun _ => ?_)
                refine g_aload_n C 1 dX12_digest_207 rfl rfl rfl ?_
                refine g_aload_n C 1 dX12_digest_208 rfl rfl rfl ?_
                refine g_iload_n C 0 dX12_digest_209 rfl rfl rfl ?_
                refine g_callVi C (As := [.int (0)]) (q := (RX12, TX12, 36)) (k_X12_howMany l D b z hM hR hn8 (0)) hw_12_233 (hM) rfl (by decide) rfl rfl (Nat.le_of_ble_eq_true rfl) ⟨Nat.zero_le _, Nat.zero_le _⟩ dX12_digest_210 (pc' := 213) rfl ?_
                rintro r22 h9 ⟨er, e9⟩
                replace er : r22 = cCount σ 0 := er
                subst h9; rw [er]
                refine g_i2l C dX12_digest_213 rfl ?_
                refine g_callVv C (As := [.long ((cCount σ 0).toInt64)]) (q := (RX12, TX12, 36)) (k_X12_mix l D b z hM hR ((cCount σ 0).toInt64)) hw_12_241 (hM) rfl (by decide) rfl rfl (Nat.le_of_ble_eq_true rfl) ⟨Nat.zero_le _, Nat.zero_le _⟩ dX12_digest_214 (pc' := 217) rfl ?_
                rintro h23 ⟨hM, hR, fr24⟩
                have hO : ∀ q, (q < m ∨ m + 16 ≤ q) → h23 q = h q := fun q hq => (fr24 q (by omega)).trans (hO q hq)
                refine g_iinc C (v := 1) 0 ([(1, .int (1)), (0, .ref (m))]) dX12_digest_217 rfl (by decide) (by decide) rfl rfl ?_
                refine g_goto C dX12_digest_220 (tgt := 201) (by decide) ?_
                refine g_iload_n C 0 dX12_digest_201 rfl rfl rfl ?_
                refine g_bipush C (v := 10) dX12_digest_202 (by decide) rfl ?_
                refine g_icmp_ge C dX12_digest_204 (tgt := 223) (by decide) (pc' := 207) rfl (fun c204 => absurd c204 (by decide)) (fun _ => ?_)
                refine g_aload_n C 1 dX12_digest_207 rfl rfl rfl ?_
                refine g_aload_n C 1 dX12_digest_208 rfl rfl rfl ?_
                refine g_iload_n C 0 dX12_digest_209 rfl rfl rfl ?_
                refine g_callVi C (As := [.int (1)]) (q := (RX12, TX12, 36)) (k_X12_howMany l D b z hM hR hn8 (1)) hw_12_233 (hM) rfl (by decide) rfl rfl (Nat.le_of_ble_eq_true rfl) ⟨Nat.zero_le _, Nat.zero_le _⟩ dX12_digest_210 (pc' := 213) rfl ?_
                rintro r25 h9 ⟨er, e9⟩
                replace er : r25 = cCount σ 1 := er
                subst h9; rw [er]
                refine g_i2l C dX12_digest_213 rfl ?_
                refine g_callVv C (As := [.long ((cCount σ 1).toInt64)]) (q := (RX12, TX12, 36)) (k_X12_mix l D b z hM hR ((cCount σ 1).toInt64)) hw_12_241 (hM) rfl (by decide) rfl rfl (Nat.le_of_ble_eq_true rfl) ⟨Nat.zero_le _, Nat.zero_le _⟩ dX12_digest_214 (pc' := 217) rfl ?_
                rintro h26 ⟨hM, hR, fr27⟩
                have hO : ∀ q, (q < m ∨ m + 16 ≤ q) → h26 q = h q := fun q hq => (fr27 q (by omega)).trans (hO q hq)
                refine g_iinc C (v := 2) 0 ([(1, .int (2)), (0, .ref (m))]) dX12_digest_217 rfl (by decide) (by decide) rfl rfl ?_
                refine g_goto C dX12_digest_220 (tgt := 201) (by decide) ?_
                refine g_iload_n C 0 dX12_digest_201 rfl rfl rfl ?_
                refine g_bipush C (v := 10) dX12_digest_202 (by decide) rfl ?_
                refine g_icmp_ge C dX12_digest_204 (tgt := 223) (by decide) (pc' := 207) rfl (fun c204 => absurd c204 (by decide)) (fun _ => ?_)
                refine g_aload_n C 1 dX12_digest_207 rfl rfl rfl ?_
                refine g_aload_n C 1 dX12_digest_208 rfl rfl rfl ?_
                refine g_iload_n C 0 dX12_digest_209 rfl rfl rfl ?_
                refine g_callVi C (As := [.int (2)]) (q := (RX12, TX12, 36)) (k_X12_howMany l D b z hM hR hn8 (2)) hw_12_233 (hM) rfl (by decide) rfl rfl (Nat.le_of_ble_eq_true rfl) ⟨Nat.zero_le _, Nat.zero_le _⟩ dX12_digest_210 (pc' := 213) rfl ?_
                rintro r28 h9 ⟨er, e9⟩
                replace er : r28 = cCount σ 2 := er
                subst h9; rw [er]
                refine g_i2l C dX12_digest_213 rfl ?_
                refine g_callVv C (As := [.long ((cCount σ 2).toInt64)]) (q := (RX12, TX12, 36)) (k_X12_mix l D b z hM hR ((cCount σ 2).toInt64)) hw_12_241 (hM) rfl (by decide) rfl rfl (Nat.le_of_ble_eq_true rfl) ⟨Nat.zero_le _, Nat.zero_le _⟩ dX12_digest_214 (pc' := 217) rfl ?_
                rintro h29 ⟨hM, hR, fr30⟩
                have hO : ∀ q, (q < m ∨ m + 16 ≤ q) → h29 q = h q := fun q hq => (fr30 q (by omega)).trans (hO q hq)
                refine g_iinc C (v := 3) 0 ([(1, .int (3)), (0, .ref (m))]) dX12_digest_217 rfl (by decide) (by decide) rfl rfl ?_
                refine g_goto C dX12_digest_220 (tgt := 201) (by decide) ?_
                refine g_iload_n C 0 dX12_digest_201 rfl rfl rfl ?_
                refine g_bipush C (v := 10) dX12_digest_202 (by decide) rfl ?_
                refine g_icmp_ge C dX12_digest_204 (tgt := 223) (by decide) (pc' := 207) rfl (fun c204 => absurd c204 (by decide)) (fun _ => ?_)
                refine g_aload_n C 1 dX12_digest_207 rfl rfl rfl ?_
                refine g_aload_n C 1 dX12_digest_208 rfl rfl rfl ?_
                refine g_iload_n C 0 dX12_digest_209 rfl rfl rfl ?_
                refine g_callVi C (As := [.int (3)]) (q := (RX12, TX12, 36)) (k_X12_howMany l D b z hM hR hn8 (3)) hw_12_233 (hM) rfl (by decide) rfl rfl (Nat.le_of_ble_eq_true rfl) ⟨Nat.zero_le _, Nat.zero_le _⟩ dX12_digest_210 (pc' := 213) rfl ?_
                rintro r31 h9 ⟨er, e9⟩
                replace er : r31 = cCount σ 3 := er
                subst h9; rw [er]
                refine g_i2l C dX12_digest_213 rfl ?_
                refine g_callVv C (As := [.long ((cCount σ 3).toInt64)]) (q := (RX12, TX12, 36)) (k_X12_mix l D b z hM hR ((cCount σ 3).toInt64)) hw_12_241 (hM) rfl (by decide) rfl rfl (Nat.le_of_ble_eq_true rfl) ⟨Nat.zero_le _, Nat.zero_le _⟩ dX12_digest_214 (pc' := 217) rfl ?_
                rintro h32 ⟨hM, hR, fr33⟩
                have hO : ∀ q, (q < m ∨ m + 16 ≤ q) → h32 q = h q := fun q hq => (fr33 q (by omega)).trans (hO q hq)
                refine g_iinc C (v := 4) 0 ([(1, .int (4)), (0, .ref (m))]) dX12_digest_217 rfl (by decide) (by decide) rfl rfl ?_
                refine g_goto C dX12_digest_220 (tgt := 201) (by decide) ?_
                refine g_iload_n C 0 dX12_digest_201 rfl rfl rfl ?_
                refine g_bipush C (v := 10) dX12_digest_202 (by decide) rfl ?_
                refine g_icmp_ge C dX12_digest_204 (tgt := 223) (by decide) (pc' := 207) rfl (fun c204 => absurd c204 (by decide)) (fun _ => ?_)
                refine g_aload_n C 1 dX12_digest_207 rfl rfl rfl ?_
                refine g_aload_n C 1 dX12_digest_208 rfl rfl rfl ?_
                refine g_iload_n C 0 dX12_digest_209 rfl rfl rfl ?_
                refine g_callVi C (As := [.int (4)]) (q := (RX12, TX12, 36)) (k_X12_howMany l D b z hM hR hn8 (4)) hw_12_233 (hM) rfl (by decide) rfl rfl (Nat.le_of_ble_eq_true rfl) ⟨Nat.zero_le _, Nat.zero_le _⟩ dX12_digest_210 (pc' := 213) rfl ?_
                rintro r34 h9 ⟨er, e9⟩
                replace er : r34 = cCount σ 4 := er
                subst h9; rw [er]
                refine g_i2l C dX12_digest_213 rfl ?_
                refine g_callVv C (As := [.long ((cCount σ 4).toInt64)]) (q := (RX12, TX12, 36)) (k_X12_mix l D b z hM hR ((cCount σ 4).toInt64)) hw_12_241 (hM) rfl (by decide) rfl rfl (Nat.le_of_ble_eq_true rfl) ⟨Nat.zero_le _, Nat.zero_le _⟩ dX12_digest_214 (pc' := 217) rfl ?_
                rintro h35 ⟨hM, hR, fr36⟩
                have hO : ∀ q, (q < m ∨ m + 16 ≤ q) → h35 q = h q := fun q hq => (fr36 q (by omega)).trans (hO q hq)
                refine g_iinc C (v := 5) 0 ([(1, .int (5)), (0, .ref (m))]) dX12_digest_217 rfl (by decide) (by decide) rfl rfl ?_
                refine g_goto C dX12_digest_220 (tgt := 201) (by decide) ?_
                refine g_iload_n C 0 dX12_digest_201 rfl rfl rfl ?_
                refine g_bipush C (v := 10) dX12_digest_202 (by decide) rfl ?_
                refine g_icmp_ge C dX12_digest_204 (tgt := 223) (by decide) (pc' := 207) rfl (fun c204 => absurd c204 (by decide)) (fun _ => ?_)
                refine g_aload_n C 1 dX12_digest_207 rfl rfl rfl ?_
                refine g_aload_n C 1 dX12_digest_208 rfl rfl rfl ?_
                refine g_iload_n C 0 dX12_digest_209 rfl rfl rfl ?_
                refine g_callVi C (As := [.int (5)]) (q := (RX12, TX12, 36)) (k_X12_howMany l D b z hM hR hn8 (5)) hw_12_233 (hM) rfl (by decide) rfl rfl (Nat.le_of_ble_eq_true rfl) ⟨Nat.zero_le _, Nat.zero_le _⟩ dX12_digest_210 (pc' := 213) rfl ?_
                rintro r37 h9 ⟨er, e9⟩
                replace er : r37 = cCount σ 5 := er
                subst h9; rw [er]
                refine g_i2l C dX12_digest_213 rfl ?_
                refine g_callVv C (As := [.long ((cCount σ 5).toInt64)]) (q := (RX12, TX12, 36)) (k_X12_mix l D b z hM hR ((cCount σ 5).toInt64)) hw_12_241 (hM) rfl (by decide) rfl rfl (Nat.le_of_ble_eq_true rfl) ⟨Nat.zero_le _, Nat.zero_le _⟩ dX12_digest_214 (pc' := 217) rfl ?_
                rintro h38 ⟨hM, hR, fr39⟩
                have hO : ∀ q, (q < m ∨ m + 16 ≤ q) → h38 q = h q := fun q hq => (fr39 q (by omega)).trans (hO q hq)
                refine g_iinc C (v := 6) 0 ([(1, .int (6)), (0, .ref (m))]) dX12_digest_217 rfl (by decide) (by decide) rfl rfl ?_
                refine g_goto C dX12_digest_220 (tgt := 201) (by decide) ?_
                refine g_iload_n C 0 dX12_digest_201 rfl rfl rfl ?_
                refine g_bipush C (v := 10) dX12_digest_202 (by decide) rfl ?_
                refine g_icmp_ge C dX12_digest_204 (tgt := 223) (by decide) (pc' := 207) rfl (fun c204 => absurd c204 (by decide)) (fun _ => ?_)
                refine g_aload_n C 1 dX12_digest_207 rfl rfl rfl ?_
                refine g_aload_n C 1 dX12_digest_208 rfl rfl rfl ?_
                refine g_iload_n C 0 dX12_digest_209 rfl rfl rfl ?_
                refine g_callVi C (As := [.int (6)]) (q := (RX12, TX12, 36)) (k_X12_howMany l D b z hM hR hn8 (6)) hw_12_233 (hM) rfl (by decide) rfl rfl (Nat.le_of_ble_eq_true rfl) ⟨Nat.zero_le _, Nat.zero_le _⟩ dX12_digest_210 (pc' := 213) rfl ?_
                rintro r40 h9 ⟨er, e9⟩
                replace er : r40 = cCount σ 6 := er
                subst h9; rw [er]
                refine g_i2l C dX12_digest_213 rfl ?_
                refine g_callVv C (As := [.long ((cCount σ 6).toInt64)]) (q := (RX12, TX12, 36)) (k_X12_mix l D b z hM hR ((cCount σ 6).toInt64)) hw_12_241 (hM) rfl (by decide) rfl rfl (Nat.le_of_ble_eq_true rfl) ⟨Nat.zero_le _, Nat.zero_le _⟩ dX12_digest_214 (pc' := 217) rfl ?_
                rintro h41 ⟨hM, hR, fr42⟩
                have hO : ∀ q, (q < m ∨ m + 16 ≤ q) → h41 q = h q := fun q hq => (fr42 q (by omega)).trans (hO q hq)
                refine g_iinc C (v := 7) 0 ([(1, .int (7)), (0, .ref (m))]) dX12_digest_217 rfl (by decide) (by decide) rfl rfl ?_
                refine g_goto C dX12_digest_220 (tgt := 201) (by decide) ?_
                refine g_iload_n C 0 dX12_digest_201 rfl rfl rfl ?_
                refine g_bipush C (v := 10) dX12_digest_202 (by decide) rfl ?_
                refine g_icmp_ge C dX12_digest_204 (tgt := 223) (by decide) (pc' := 207) rfl (fun c204 => absurd c204 (by decide)) (fun _ => ?_)
                refine g_aload_n C 1 dX12_digest_207 rfl rfl rfl ?_
                refine g_aload_n C 1 dX12_digest_208 rfl rfl rfl ?_
                refine g_iload_n C 0 dX12_digest_209 rfl rfl rfl ?_
                refine g_callVi C (As := [.int (7)]) (q := (RX12, TX12, 36)) (k_X12_howMany l D b z hM hR hn8 (7)) hw_12_233 (hM) rfl (by decide) rfl rfl (Nat.le_of_ble_eq_true rfl) ⟨Nat.zero_le _, Nat.zero_le _⟩ dX12_digest_210 (pc' := 213) rfl ?_
                rintro r43 h9 ⟨er, e9⟩
                replace er : r43 = cCount σ 7 := er
                subst h9; rw [er]
                refine g_i2l C dX12_digest_213 rfl ?_
                refine g_callVv C (As := [.long ((cCount σ 7).toInt64)]) (q := (RX12, TX12, 36)) (k_X12_mix l D b z hM hR ((cCount σ 7).toInt64)) hw_12_241 (hM) rfl (by decide) rfl rfl (Nat.le_of_ble_eq_true rfl) ⟨Nat.zero_le _, Nat.zero_le _⟩ dX12_digest_214 (pc' := 217) rfl ?_
                rintro h44 ⟨hM, hR, fr45⟩
                have hO : ∀ q, (q < m ∨ m + 16 ≤ q) → h44 q = h q := fun q hq => (fr45 q (by omega)).trans (hO q hq)
                refine g_iinc C (v := 8) 0 ([(1, .int (8)), (0, .ref (m))]) dX12_digest_217 rfl (by decide) (by decide) rfl rfl ?_
                refine g_goto C dX12_digest_220 (tgt := 201) (by decide) ?_
                refine g_iload_n C 0 dX12_digest_201 rfl rfl rfl ?_
                refine g_bipush C (v := 10) dX12_digest_202 (by decide) rfl ?_
                refine g_icmp_ge C dX12_digest_204 (tgt := 223) (by decide) (pc' := 207) rfl (fun c204 => absurd c204 (by decide)) (fun _ => ?_)
                refine g_aload_n C 1 dX12_digest_207 rfl rfl rfl ?_
                refine g_aload_n C 1 dX12_digest_208 rfl rfl rfl ?_
                refine g_iload_n C 0 dX12_digest_209 rfl rfl rfl ?_
                refine g_callVi C (As := [.int (8)]) (q := (RX12, TX12, 36)) (k_X12_howMany l D b z hM hR hn8 (8)) hw_12_233 (hM) rfl (by decide) rfl rfl (Nat.le_of_ble_eq_true rfl) ⟨Nat.zero_le _, Nat.zero_le _⟩ dX12_digest_210 (pc' := 213) rfl ?_
                rintro r46 h9 ⟨er, e9⟩
                replace er : r46 = cCount σ 8 := er
                subst h9; rw [er]
                refine g_i2l C dX12_digest_213 rfl ?_
                refine g_callVv C (As := [.long ((cCount σ 8).toInt64)]) (q := (RX12, TX12, 36)) (k_X12_mix l D b z hM hR ((cCount σ 8).toInt64)) hw_12_241 (hM) rfl (by decide) rfl rfl (Nat.le_of_ble_eq_true rfl) ⟨Nat.zero_le _, Nat.zero_le _⟩ dX12_digest_214 (pc' := 217) rfl ?_
                rintro h47 ⟨hM, hR, fr48⟩
                have hO : ∀ q, (q < m ∨ m + 16 ≤ q) → h47 q = h q := fun q hq => (fr48 q (by omega)).trans (hO q hq)
                refine g_iinc C (v := 9) 0 ([(1, .int (9)), (0, .ref (m))]) dX12_digest_217 rfl (by decide) (by decide) rfl rfl ?_
                refine g_goto C dX12_digest_220 (tgt := 201) (by decide) ?_
                refine g_iload_n C 0 dX12_digest_201 rfl rfl rfl ?_
                refine g_bipush C (v := 10) dX12_digest_202 (by decide) rfl ?_
                refine g_icmp_ge C dX12_digest_204 (tgt := 223) (by decide) (pc' := 207) rfl (fun c204 => absurd c204 (by decide)) (fun _ => ?_)
                refine g_aload_n C 1 dX12_digest_207 rfl rfl rfl ?_
                refine g_aload_n C 1 dX12_digest_208 rfl rfl rfl ?_
                refine g_iload_n C 0 dX12_digest_209 rfl rfl rfl ?_
                refine g_callVi C (As := [.int (9)]) (q := (RX12, TX12, 36)) (k_X12_howMany l D b z hM hR hn8 (9)) hw_12_233 (hM) rfl (by decide) rfl rfl (Nat.le_of_ble_eq_true rfl) ⟨Nat.zero_le _, Nat.zero_le _⟩ dX12_digest_210 (pc' := 213) rfl ?_
                rintro r49 h9 ⟨er, e9⟩
                replace er : r49 = cCount σ 9 := er
                subst h9; rw [er]
                refine g_i2l C dX12_digest_213 rfl ?_
                refine g_callVv C (As := [.long ((cCount σ 9).toInt64)]) (q := (RX12, TX12, 36)) (k_X12_mix l D b z hM hR ((cCount σ 9).toInt64)) hw_12_241 (hM) rfl (by decide) rfl rfl (Nat.le_of_ble_eq_true rfl) ⟨Nat.zero_le _, Nat.zero_le _⟩ dX12_digest_214 (pc' := 217) rfl ?_
                rintro h50 ⟨hM, hR, fr51⟩
                have hO : ∀ q, (q < m ∨ m + 16 ≤ q) → h50 q = h q := fun q hq => (fr51 q (by omega)).trans (hO q hq)
                refine g_iinc C (v := 10) 0 ([(1, .int (10)), (0, .ref (m))]) dX12_digest_217 rfl (by decide) (by decide) rfl rfl ?_
                refine g_goto C dX12_digest_220 (tgt := 201) (by decide) ?_
                refine g_iload_n C 0 dX12_digest_201 rfl rfl rfl ?_
                refine g_bipush C (v := 10) dX12_digest_202 (by decide) rfl ?_
                refine g_icmp_ge C dX12_digest_204 (tgt := 223) (by decide) (pc' := 207) rfl (fun _ => ?_) (fun c204 => absurd (by decide) c204)
                refine g_aload_n C 1 dX12_digest_223 rfl rfl rfl ?_
                refine gf_12_238 C (hM) (v := .long (mx (mx (mx (mx (mx (mx (mx (mx (mx (mx (b3) ((cCount σ 0).toInt64)) ((cCount σ 1).toInt64)) ((cCount σ 2).toInt64)) ((cCount σ 3).toInt64)) ((cCount σ 4).toInt64)) ((cCount σ 5).toInt64)) ((cCount σ 6).toInt64)) ((cCount σ 7).toInt64)) ((cCount σ 8).toInt64)) ((cCount σ 9).toInt64))) rfl dX12_digest_224 rfl ?_
                exact ret _ _ _ _ dX12_digest_227 (⟨by unfold mDigest dgN; rw [← b1E, ← b2E, ← b3E], ⟨_, _, _, _, _, _, _, _, hM, hR⟩, hO⟩)
              · intro c179
                replace c179 := (not_congr (nI_leI (a := gN σ 16) (b := i) (by omega) (by omega))).mp c179
                refine g_aload_n C 1 dX12_digest_182 rfl rfl rfl ?_
                refine g_aload_n C 1 dX12_digest_183 rfl rfl rfl ?_
                refine gf_12_34 C (hM) (v := .ref (m + 9)) rfl dX12_digest_184 rfl ?_
                refine g_iload_n C 0 dX12_digest_187 rfl rfl rfl ?_
                refine g_bald' C (hR.2.2.2.2.2.2.2.2.1) (j := i) rfl (by omega) (by decide) dX12_digest_188 rfl ?_
                refine g_i2l C dX12_digest_189 rfl ?_
                refine g_callVv C (As := [.long ((gB σ 17 (i)).toInt64)]) (q := (RX12, TX12, 36)) (k_X12_mix l D b z hM hR ((gB σ 17 (i)).toInt64)) hw_12_241 (hM) rfl (by decide) rfl rfl (Nat.le_of_ble_eq_true rfl) ⟨Nat.zero_le _, Nat.zero_le _⟩ dX12_digest_190 (pc' := 193) rfl ?_
                rintro h52 ⟨hM, hR, fr53⟩
                have hO : ∀ q, (q < m ∨ m + 16 ≤ q) → h52 q = h q := fun q hq => (fr53 q (by omega)).trans (hO q hq)
                refine g_iinc C (v := nI (i + 1)) 0 ([(1, .int (nI (i + 1))), (0, .ref (m))]) dX12_digest_193 rfl (nI_1 _) (by decide) rfl rfl ?_
                refine g_goto C dX12_digest_196 (tgt := 174) (by decide) ?_
                exact ih174 (i + 1) (h52) (mx (hh) ((gB σ 17 (i)).toInt64)) (by omega) (by omega) (by simp only [dgG]; rw [hhe]) (hM) (hR) (hO)
          exact loop174 _ (0) (h20) (b2) (Nat.lt_succ_self _) (Nat.zero_le _) (rfl) (hM) (hR) (hO)
        · intro c51
          replace c51 := (not_congr (nI_eq (a := gN σ 0) (b := 0) (by omega) (by omega))).mp c51
          refine g_iconst C (v := 1) dX12_digest_54 (by decide) rfl ?_
          refine g_istore_n C ([(1, .int (1)), (0, .ref (m))]) dX12_digest_55 rfl (by decide) rfl rfl ?_
          refine g_iload_n C 0 dX12_digest_56 rfl rfl rfl ?_
          refine g_iconst C (v := 4) dX12_digest_57 (by decide) rfl ?_
          refine g_icmp_gt C dX12_digest_58 (tgt := 78) (by decide) (pc' := 61) rfl (fun c58 => absurd c58 (by decide)) (fun _ => ?_)
          refine g_aload_n C 1 dX12_digest_61 rfl rfl rfl ?_
          refine g_aload_n C 1 dX12_digest_62 rfl rfl rfl ?_
          refine gf_12_13 C (hM) (v := .ref (m + 2)) rfl dX12_digest_63 rfl ?_
          refine g_iload_n C 0 dX12_digest_66 rfl rfl rfl ?_
          refine g_iald' C (hR.2.1) (j := 1) rfl (by omega) (by decide) dX12_digest_67 rfl ?_
          refine g_i2l C dX12_digest_68 rfl ?_
          refine g_callVv C (As := [.long ((gB σ 7 (1)).toInt64)]) (q := (RX12, TX12, 36)) (k_X12_mix l D b z hM hR ((gB σ 7 (1)).toInt64)) hw_12_241 (hM) rfl (by decide) rfl rfl (Nat.le_of_ble_eq_true rfl) ⟨Nat.zero_le _, Nat.zero_le _⟩ dX12_digest_69 (pc' := 72) rfl ?_
          rintro h54 ⟨hM, hR, fr55⟩
          have hO : ∀ q, (q < m ∨ m + 16 ≤ q) → h54 q = h q := fun q hq => (fr55 q (by omega)).trans (hO q hq)
          refine g_iinc C (v := 2) 0 ([(1, .int (2)), (0, .ref (m))]) dX12_digest_72 rfl (by decide) (by decide) rfl rfl ?_
          refine g_goto C dX12_digest_75 (tgt := 56) (by decide) ?_
          refine g_iload_n C 0 dX12_digest_56 rfl rfl rfl ?_
          refine g_iconst C (v := 4) dX12_digest_57 (by decide) rfl ?_
          refine g_icmp_gt C dX12_digest_58 (tgt := 78) (by decide) (pc' := 61) rfl (fun c58 => absurd c58 (by decide)) (fun _ => ?_)
          refine g_aload_n C 1 dX12_digest_61 rfl rfl rfl ?_
          refine g_aload_n C 1 dX12_digest_62 rfl rfl rfl ?_
          refine gf_12_13 C (hM) (v := .ref (m + 2)) rfl dX12_digest_63 rfl ?_
          refine g_iload_n C 0 dX12_digest_66 rfl rfl rfl ?_
          refine g_iald' C (hR.2.1) (j := 2) rfl (by omega) (by decide) dX12_digest_67 rfl ?_
          refine g_i2l C dX12_digest_68 rfl ?_
          refine g_callVv C (As := [.long ((gB σ 7 (2)).toInt64)]) (q := (RX12, TX12, 36)) (k_X12_mix l D b z hM hR ((gB σ 7 (2)).toInt64)) hw_12_241 (hM) rfl (by decide) rfl rfl (Nat.le_of_ble_eq_true rfl) ⟨Nat.zero_le _, Nat.zero_le _⟩ dX12_digest_69 (pc' := 72) rfl ?_
          rintro h56 ⟨hM, hR, fr57⟩
          have hO : ∀ q, (q < m ∨ m + 16 ≤ q) → h56 q = h q := fun q hq => (fr57 q (by omega)).trans (hO q hq)
          refine g_iinc C (v := 3) 0 ([(1, .int (3)), (0, .ref (m))]) dX12_digest_72 rfl (by decide) (by decide) rfl rfl ?_
          refine g_goto C dX12_digest_75 (tgt := 56) (by decide) ?_
          refine g_iload_n C 0 dX12_digest_56 rfl rfl rfl ?_
          refine g_iconst C (v := 4) dX12_digest_57 (by decide) rfl ?_
          refine g_icmp_gt C dX12_digest_58 (tgt := 78) (by decide) (pc' := 61) rfl (fun c58 => absurd c58 (by decide)) (fun _ => ?_)
          refine g_aload_n C 1 dX12_digest_61 rfl rfl rfl ?_
          refine g_aload_n C 1 dX12_digest_62 rfl rfl rfl ?_
          refine gf_12_13 C (hM) (v := .ref (m + 2)) rfl dX12_digest_63 rfl ?_
          refine g_iload_n C 0 dX12_digest_66 rfl rfl rfl ?_
          refine g_iald' C (hR.2.1) (j := 3) rfl (by omega) (by decide) dX12_digest_67 rfl ?_
          refine g_i2l C dX12_digest_68 rfl ?_
          refine g_callVv C (As := [.long ((gB σ 7 (3)).toInt64)]) (q := (RX12, TX12, 36)) (k_X12_mix l D b z hM hR ((gB σ 7 (3)).toInt64)) hw_12_241 (hM) rfl (by decide) rfl rfl (Nat.le_of_ble_eq_true rfl) ⟨Nat.zero_le _, Nat.zero_le _⟩ dX12_digest_69 (pc' := 72) rfl ?_
          rintro h58 ⟨hM, hR, fr59⟩
          have hO : ∀ q, (q < m ∨ m + 16 ≤ q) → h58 q = h q := fun q hq => (fr59 q (by omega)).trans (hO q hq)
          refine g_iinc C (v := 4) 0 ([(1, .int (4)), (0, .ref (m))]) dX12_digest_72 rfl (by decide) (by decide) rfl rfl ?_
          refine g_goto C dX12_digest_75 (tgt := 56) (by decide) ?_
          refine g_iload_n C 0 dX12_digest_56 rfl rfl rfl ?_
          refine g_iconst C (v := 4) dX12_digest_57 (by decide) rfl ?_
          refine g_icmp_gt C dX12_digest_58 (tgt := 78) (by decide) (pc' := 61) rfl (fun c58 => absurd c58 (by decide)) (fun _ => ?_)
          refine g_aload_n C 1 dX12_digest_61 rfl rfl rfl ?_
          refine g_aload_n C 1 dX12_digest_62 rfl rfl rfl ?_
          refine gf_12_13 C (hM) (v := .ref (m + 2)) rfl dX12_digest_63 rfl ?_
          refine g_iload_n C 0 dX12_digest_66 rfl rfl rfl ?_
          refine g_iald' C (hR.2.1) (j := 4) rfl (by omega) (by decide) dX12_digest_67 rfl ?_
          refine g_i2l C dX12_digest_68 rfl ?_
          refine g_callVv C (As := [.long ((gB σ 7 (4)).toInt64)]) (q := (RX12, TX12, 36)) (k_X12_mix l D b z hM hR ((gB σ 7 (4)).toInt64)) hw_12_241 (hM) rfl (by decide) rfl rfl (Nat.le_of_ble_eq_true rfl) ⟨Nat.zero_le _, Nat.zero_le _⟩ dX12_digest_69 (pc' := 72) rfl ?_
          rintro h60 ⟨hM, hR, fr61⟩
          have hO : ∀ q, (q < m ∨ m + 16 ≤ q) → h60 q = h q := fun q hq => (fr61 q (by omega)).trans (hO q hq)
          refine g_iinc C (v := 5) 0 ([(1, .int (5)), (0, .ref (m))]) dX12_digest_72 rfl (by decide) (by decide) rfl rfl ?_
          refine g_goto C dX12_digest_75 (tgt := 56) (by decide) ?_
          refine g_iload_n C 0 dX12_digest_56 rfl rfl rfl ?_
          refine g_iconst C (v := 4) dX12_digest_57 (by decide) rfl ?_
          refine g_icmp_gt C dX12_digest_58 (tgt := 78) (by decide) (pc' := 61) rfl (fun _ => ?_) (fun c58 => absurd (by decide) c58)
          obtain ⟨bT, bTE⟩ : ∃ b9 : Int64, b9 = mx (mx (mx (mx (b0) ((gB σ 7 (1)).toInt64)) ((gB σ 7 (2)).toInt64)) ((gB σ 7 (3)).toInt64)) ((gB σ 7 (4)).toInt64) := ⟨_, rfl⟩
          have hM : MdO h60 m (σ) (s18) (s19) (s20) (s23) (s24) (bT) := by rw [bTE]; exact hM
          replace bTE : bT = mdT σ b0 := by rw [bTE]; try rfl
          refine g_aload_n C 1 dX12_digest_78 rfl rfl rfl ?_
          refine g_iconst C (v := 1) dX12_digest_79 (by decide) rfl ?_
          refine g_callVv C (As := [.int (1)]) (q := (RX12, TX12, 36)) (k_X12_mixLikely l D b z hM hR h6 hn4 hIt (hTot (by omega)) (k := 1) (by omega)) hw_12_247 (hM) rfl (by decide) rfl rfl (Nat.le_of_ble_eq_true rfl) ⟨Nat.zero_le _, Nat.zero_le _⟩ dX12_digest_80 (pc' := 83) rfl ?_
          rintro h62 ⟨hM, hR, fr63⟩
          have hO : ∀ q, (q < m ∨ m + 16 ≤ q) → h62 q = h q := fun q hq => (fr63 q (by omega)).trans (hO q hq)
          refine g_aload_n C 1 dX12_digest_83 rfl rfl rfl ?_
          refine g_bipush C (v := 6) dX12_digest_84 (by decide) rfl ?_
          refine g_callVv C (As := [.int (6)]) (q := (RX12, TX12, 36)) (k_X12_mixLikely l D b z hM hR h6 hn4 hIt (hTot (by omega)) (k := 6) (by omega)) hw_12_247 (hM) rfl (by decide) rfl rfl (Nat.le_of_ble_eq_true rfl) ⟨Nat.zero_le _, Nat.zero_le _⟩ dX12_digest_86 (pc' := 89) rfl ?_
          rintro h64 ⟨hM, hR, fr65⟩
          have hO : ∀ q, (q < m ∨ m + 16 ≤ q) → h64 q = h q := fun q hq => (fr65 q (by omega)).trans (hO q hq)
          obtain ⟨bL, bLE⟩ : ∃ b9 : Int64, b9 = mdL σ (mdL σ (bT) 1) 6 := ⟨_, rfl⟩
          have hM : MdO h64 m (σ) (s18) (s19) (s20) (s23) (s24) (bL) := by rw [bLE]; exact hM
          replace bLE : bL = mdL σ (mdL σ bT 1) 6 := by rw [bLE]; try rfl
          refine g_aload_n C 1 dX12_digest_89 rfl rfl rfl ?_
          refine g_aload_n C 1 dX12_digest_90 rfl rfl rfl ?_
          refine g_callVi C (As := []) (q := (RX12, TX12, 36)) (k_X12_likeliestNow l D b z hM hR h6) hw_12_151 (hM) rfl (by decide) rfl rfl (Nat.le_of_ble_eq_true rfl) ⟨Nat.zero_le _, Nat.zero_le _⟩ dX12_digest_91 (pc' := 94) rfl ?_
          rintro r66 h9 ⟨er, e9⟩
          replace er : r66 = lkM σ := er
          subst h9; rw [er]
          refine g_i2l C dX12_digest_94 rfl ?_
          refine g_callVv C (As := [.long ((lkM σ).toInt64)]) (q := (RX12, TX12, 36)) (k_X12_mix l D b z hM hR ((lkM σ).toInt64)) hw_12_241 (hM) rfl (by decide) rfl rfl (Nat.le_of_ble_eq_true rfl) ⟨Nat.zero_le _, Nat.zero_le _⟩ dX12_digest_95 (pc' := 98) rfl ?_
          rintro h67 ⟨hM, hR, fr68⟩
          have hO : ∀ q, (q < m ∨ m + 16 ≤ q) → h67 q = h q := fun q hq => (fr68 q (by omega)).trans (hO q hq)
          refine g_aload_n C 1 dX12_digest_98 rfl rfl rfl ?_
          refine g_aload_n C 1 dX12_digest_99 rfl rfl rfl ?_
          refine g_callVi C (As := []) (q := (RX12, TX12, 36)) (k_X12_waysNow l D b z hM hR h6) hw_12_154 (hM) rfl (by decide) rfl rfl (Nat.le_of_ble_eq_true rfl) ⟨Nat.zero_le _, Nat.zero_le _⟩ dX12_digest_100 (pc' := 103) rfl ?_
          rintro r69 h9 ⟨er, e9⟩
          replace er : r69 = nI (wyM σ) := er
          subst h9; rw [er]
          refine g_i2l C dX12_digest_103 rfl ?_
          refine g_callVv C (As := [.long ((nI (wyM σ)).toInt64)]) (q := (RX12, TX12, 36)) (k_X12_mix l D b z hM hR ((nI (wyM σ)).toInt64)) hw_12_241 (hM) rfl (by decide) rfl rfl (Nat.le_of_ble_eq_true rfl) ⟨Nat.zero_le _, Nat.zero_le _⟩ dX12_digest_104 (pc' := 107) rfl ?_
          rintro h70 ⟨hM, hR, fr71⟩
          have hO : ∀ q, (q < m ∨ m + 16 ≤ q) → h70 q = h q := fun q hq => (fr71 q (by omega)).trans (hO q hq)
          refine g_aload_n C 1 dX12_digest_107 rfl rfl rfl ?_
          refine g_aload_n C 1 dX12_digest_108 rfl rfl rfl ?_
          refine g_iconst C (v := 1) dX12_digest_109 (by decide) rfl ?_
          refine g_callVi C (As := [.int (1)]) (q := (RX12, TX12, 36)) (k_X12_sureNow l D b z hM hR h6 (a := 1) (by omega)) hw_12_157 (hM) rfl (by decide) rfl rfl (Nat.le_of_ble_eq_true rfl) ⟨Nat.zero_le _, Nat.zero_le _⟩ dX12_digest_110 (pc' := 113) rfl ?_
          rintro r72 h9 ⟨er, e9⟩
          replace er : r72 = msr σ 1 := er
          subst h9; rw [er]
          refine g_i2l C dX12_digest_113 rfl ?_
          refine g_callVv C (As := [.long ((msr σ 1).toInt64)]) (q := (RX12, TX12, 36)) (k_X12_mix l D b z hM hR ((msr σ 1).toInt64)) hw_12_241 (hM) rfl (by decide) rfl rfl (Nat.le_of_ble_eq_true rfl) ⟨Nat.zero_le _, Nat.zero_le _⟩ dX12_digest_114 (pc' := 117) rfl ?_
          rintro h73 ⟨hM, hR, fr74⟩
          have hO : ∀ q, (q < m ∨ m + 16 ≤ q) → h73 q = h q := fun q hq => (fr74 q (by omega)).trans (hO q hq)
          refine g_aload_n C 1 dX12_digest_117 rfl rfl rfl ?_
          refine g_aload_n C 1 dX12_digest_118 rfl rfl rfl ?_
          refine g_iconst C (v := 2) dX12_digest_119 (by decide) rfl ?_
          refine g_iconst C (v := 5) dX12_digest_120 (by decide) rfl ?_
          refine g_iconst C (v := 0) dX12_digest_121 (by decide) rfl ?_
          refine g_callVl C (As := [.int (2), .int (5), .int (0)]) (q := (RX12, TX12, 36)) (k_X12_lookNow l D b z hM hR h6 hn4 hIt (hTot (by omega)) (c := 2) (t := 5) (by omega) (by omega) (0)) hw_12_166 (hM) rfl (by decide) rfl rfl (Nat.le_of_ble_eq_true rfl) ⟨Nat.zero_le _, Nat.zero_le _⟩ dX12_digest_122 (pc' := 125) rfl ?_
          rintro r75 h9 ⟨er, e9⟩
          replace er : r75 = mlo σ 2 5 0 := er
          subst h9; rw [er]
          refine g_callVv C (As := [.long (mlo σ 2 5 0)]) (q := (RX12, TX12, 36)) (k_X12_mix l D b z hM hR (mlo σ 2 5 0)) hw_12_241 (hM) rfl (by decide) rfl rfl (Nat.le_of_ble_eq_true rfl) ⟨Nat.zero_le _, Nat.zero_le _⟩ dX12_digest_125 (pc' := 128) rfl ?_
          rintro h76 ⟨hM, hR, fr77⟩
          have hO : ∀ q, (q < m ∨ m + 16 ≤ q) → h76 q = h q := fun q hq => (fr77 q (by omega)).trans (hO q hq)
          refine g_aload_n C 1 dX12_digest_128 rfl rfl rfl ?_
          refine g_aload_n C 1 dX12_digest_129 rfl rfl rfl ?_
          refine g_iconst C (v := 2) dX12_digest_130 (by decide) rfl ?_
          refine g_iconst C (v := 5) dX12_digest_131 (by decide) rfl ?_
          refine g_iconst C (v := 1) dX12_digest_132 (by decide) rfl ?_
          refine g_callVl C (As := [.int (2), .int (5), .int (1)]) (q := (RX12, TX12, 36)) (k_X12_lookNow l D b z hM hR h6 hn4 hIt (hTot (by omega)) (c := 2) (t := 5) (by omega) (by omega) (1)) hw_12_166 (hM) rfl (by decide) rfl rfl (Nat.le_of_ble_eq_true rfl) ⟨Nat.zero_le _, Nat.zero_le _⟩ dX12_digest_133 (pc' := 136) rfl ?_
          rintro r78 h9 ⟨er, e9⟩
          replace er : r78 = mlo σ 2 5 1 := er
          subst h9; rw [er]
          refine g_callVv C (As := [.long (mlo σ 2 5 1)]) (q := (RX12, TX12, 36)) (k_X12_mix l D b z hM hR (mlo σ 2 5 1)) hw_12_241 (hM) rfl (by decide) rfl rfl (Nat.le_of_ble_eq_true rfl) ⟨Nat.zero_le _, Nat.zero_le _⟩ dX12_digest_136 (pc' := 139) rfl ?_
          rintro h79 ⟨hM, hR, fr80⟩
          have hO : ∀ q, (q < m ∨ m + 16 ≤ q) → h79 q = h q := fun q hq => (fr80 q (by omega)).trans (hO q hq)
          obtain ⟨b1, b1E⟩ : ∃ b9 : Int64, b9 = mx (mx (mx (mx (mx (bL) ((lkM σ).toInt64)) ((nI (wyM σ)).toInt64)) ((msr σ 1).toInt64)) (mlo σ 2 5 0)) (mlo σ 2 5 1) := ⟨_, rfl⟩
          have hM : MdO h79 m (σ) (s18) (s19) (s20) (s23) (s24) (b1) := by rw [b1E]; exact hM
          replace b1E : b1 = (if gN σ 0 = 0 then mdP σ 821 (gN σ 8) else mdC σ (mdP σ 821 (gN σ 8))) := by rw [b1E]; rw [if_neg c51, bLE, bTE, b0E]; unfold mdC; rfl
          refine g_iconst C (v := 0) dX12_digest_139 (by decide) rfl ?_
          refine g_istore_n C ([(1, .int (0)), (0, .ref (m))]) dX12_digest_140 rfl (by decide) rfl rfl ?_
          refine g_iload_n C 0 dX12_digest_141 rfl rfl rfl ?_
          refine g_iconst C (v := 5) dX12_digest_142 (by decide) rfl ?_
          refine g_icmp_ge C dX12_digest_143 (tgt := 163) (by decide) (pc' := 146) rfl (fun c143 => absurd c143 (by decide)) (fun _ => ?_)
          refine g_aload_n C 1 dX12_digest_146 rfl rfl rfl ?_
          refine g_aload_n C 1 dX12_digest_147 rfl rfl rfl ?_
          refine g_iload_n C 0 dX12_digest_148 rfl rfl rfl ?_
          refine g_iconst C (v := 1) dX12_digest_149 (by decide) rfl ?_
          refine g_callVi C (As := [.int (0), .int (1)]) (q := (RX12, TX12, 36)) (kw_X12_lookedAt l D b z hM hR h13 (y := 0) (by omega)) hw_12_169 (hM) rfl (by decide) rfl rfl (Nat.le_of_ble_eq_true rfl) ⟨Nat.zero_le _, Nat.zero_le _⟩ dX12_digest_150 (pc' := 153) rfl ?_
          rintro r81 h9 ⟨er, e9⟩
          replace er : r81 = nI (wrS σ 0) := er
          subst h9; rw [er]
          refine g_i2l C dX12_digest_153 rfl ?_
          refine g_callVv C (As := [.long ((nI (wrS σ 0)).toInt64)]) (q := (RX12, TX12, 36)) (k_X12_mix l D b z hM hR ((nI (wrS σ 0)).toInt64)) hw_12_241 (hM) rfl (by decide) rfl rfl (Nat.le_of_ble_eq_true rfl) ⟨Nat.zero_le _, Nat.zero_le _⟩ dX12_digest_154 (pc' := 157) rfl ?_
          rintro h82 ⟨hM, hR, fr83⟩
          have hO : ∀ q, (q < m ∨ m + 16 ≤ q) → h82 q = h q := fun q hq => (fr83 q (by omega)).trans (hO q hq)
          refine g_iinc C (v := 1) 0 ([(1, .int (1)), (0, .ref (m))]) dX12_digest_157 rfl (by decide) (by decide) rfl rfl ?_
          refine g_goto C dX12_digest_160 (tgt := 141) (by decide) ?_
          refine g_iload_n C 0 dX12_digest_141 rfl rfl rfl ?_
          refine g_iconst C (v := 5) dX12_digest_142 (by decide) rfl ?_
          refine g_icmp_ge C dX12_digest_143 (tgt := 163) (by decide) (pc' := 146) rfl (fun c143 => absurd c143 (by decide)) (fun _ => ?_)
          refine g_aload_n C 1 dX12_digest_146 rfl rfl rfl ?_
          refine g_aload_n C 1 dX12_digest_147 rfl rfl rfl ?_
          refine g_iload_n C 0 dX12_digest_148 rfl rfl rfl ?_
          refine g_iconst C (v := 1) dX12_digest_149 (by decide) rfl ?_
          refine g_callVi C (As := [.int (1), .int (1)]) (q := (RX12, TX12, 36)) (kw_X12_lookedAt l D b z hM hR h13 (y := 1) (by omega)) hw_12_169 (hM) rfl (by decide) rfl rfl (Nat.le_of_ble_eq_true rfl) ⟨Nat.zero_le _, Nat.zero_le _⟩ dX12_digest_150 (pc' := 153) rfl ?_
          rintro r84 h9 ⟨er, e9⟩
          replace er : r84 = nI (wrS σ 1) := er
          subst h9; rw [er]
          refine g_i2l C dX12_digest_153 rfl ?_
          refine g_callVv C (As := [.long ((nI (wrS σ 1)).toInt64)]) (q := (RX12, TX12, 36)) (k_X12_mix l D b z hM hR ((nI (wrS σ 1)).toInt64)) hw_12_241 (hM) rfl (by decide) rfl rfl (Nat.le_of_ble_eq_true rfl) ⟨Nat.zero_le _, Nat.zero_le _⟩ dX12_digest_154 (pc' := 157) rfl ?_
          rintro h85 ⟨hM, hR, fr86⟩
          have hO : ∀ q, (q < m ∨ m + 16 ≤ q) → h85 q = h q := fun q hq => (fr86 q (by omega)).trans (hO q hq)
          refine g_iinc C (v := 2) 0 ([(1, .int (2)), (0, .ref (m))]) dX12_digest_157 rfl (by decide) (by decide) rfl rfl ?_
          refine g_goto C dX12_digest_160 (tgt := 141) (by decide) ?_
          refine g_iload_n C 0 dX12_digest_141 rfl rfl rfl ?_
          refine g_iconst C (v := 5) dX12_digest_142 (by decide) rfl ?_
          refine g_icmp_ge C dX12_digest_143 (tgt := 163) (by decide) (pc' := 146) rfl (fun c143 => absurd c143 (by decide)) (fun _ => ?_)
          refine g_aload_n C 1 dX12_digest_146 rfl rfl rfl ?_
          refine g_aload_n C 1 dX12_digest_147 rfl rfl rfl ?_
          refine g_iload_n C 0 dX12_digest_148 rfl rfl rfl ?_
          refine g_iconst C (v := 1) dX12_digest_149 (by decide) rfl ?_
          refine g_callVi C (As := [.int (2), .int (1)]) (q := (RX12, TX12, 36)) (kw_X12_lookedAt l D b z hM hR h13 (y := 2) (by omega)) hw_12_169 (hM) rfl (by decide) rfl rfl (Nat.le_of_ble_eq_true rfl) ⟨Nat.zero_le _, Nat.zero_le _⟩ dX12_digest_150 (pc' := 153) rfl ?_
          rintro r87 h9 ⟨er, e9⟩
          replace er : r87 = nI (wrS σ 2) := er
          subst h9; rw [er]
          refine g_i2l C dX12_digest_153 rfl ?_
          refine g_callVv C (As := [.long ((nI (wrS σ 2)).toInt64)]) (q := (RX12, TX12, 36)) (k_X12_mix l D b z hM hR ((nI (wrS σ 2)).toInt64)) hw_12_241 (hM) rfl (by decide) rfl rfl (Nat.le_of_ble_eq_true rfl) ⟨Nat.zero_le _, Nat.zero_le _⟩ dX12_digest_154 (pc' := 157) rfl ?_
          rintro h88 ⟨hM, hR, fr89⟩
          have hO : ∀ q, (q < m ∨ m + 16 ≤ q) → h88 q = h q := fun q hq => (fr89 q (by omega)).trans (hO q hq)
          refine g_iinc C (v := 3) 0 ([(1, .int (3)), (0, .ref (m))]) dX12_digest_157 rfl (by decide) (by decide) rfl rfl ?_
          refine g_goto C dX12_digest_160 (tgt := 141) (by decide) ?_
          refine g_iload_n C 0 dX12_digest_141 rfl rfl rfl ?_
          refine g_iconst C (v := 5) dX12_digest_142 (by decide) rfl ?_
          refine g_icmp_ge C dX12_digest_143 (tgt := 163) (by decide) (pc' := 146) rfl (fun c143 => absurd c143 (by decide)) (fun _ => ?_)
          refine g_aload_n C 1 dX12_digest_146 rfl rfl rfl ?_
          refine g_aload_n C 1 dX12_digest_147 rfl rfl rfl ?_
          refine g_iload_n C 0 dX12_digest_148 rfl rfl rfl ?_
          refine g_iconst C (v := 1) dX12_digest_149 (by decide) rfl ?_
          refine g_callVi C (As := [.int (3), .int (1)]) (q := (RX12, TX12, 36)) (kw_X12_lookedAt l D b z hM hR h13 (y := 3) (by omega)) hw_12_169 (hM) rfl (by decide) rfl rfl (Nat.le_of_ble_eq_true rfl) ⟨Nat.zero_le _, Nat.zero_le _⟩ dX12_digest_150 (pc' := 153) rfl ?_
          rintro r90 h9 ⟨er, e9⟩
          replace er : r90 = nI (wrS σ 3) := er
          subst h9; rw [er]
          refine g_i2l C dX12_digest_153 rfl ?_
          refine g_callVv C (As := [.long ((nI (wrS σ 3)).toInt64)]) (q := (RX12, TX12, 36)) (k_X12_mix l D b z hM hR ((nI (wrS σ 3)).toInt64)) hw_12_241 (hM) rfl (by decide) rfl rfl (Nat.le_of_ble_eq_true rfl) ⟨Nat.zero_le _, Nat.zero_le _⟩ dX12_digest_154 (pc' := 157) rfl ?_
          rintro h91 ⟨hM, hR, fr92⟩
          have hO : ∀ q, (q < m ∨ m + 16 ≤ q) → h91 q = h q := fun q hq => (fr92 q (by omega)).trans (hO q hq)
          refine g_iinc C (v := 4) 0 ([(1, .int (4)), (0, .ref (m))]) dX12_digest_157 rfl (by decide) (by decide) rfl rfl ?_
          refine g_goto C dX12_digest_160 (tgt := 141) (by decide) ?_
          refine g_iload_n C 0 dX12_digest_141 rfl rfl rfl ?_
          refine g_iconst C (v := 5) dX12_digest_142 (by decide) rfl ?_
          refine g_icmp_ge C dX12_digest_143 (tgt := 163) (by decide) (pc' := 146) rfl (fun c143 => absurd c143 (by decide)) (fun _ => ?_)
          refine g_aload_n C 1 dX12_digest_146 rfl rfl rfl ?_
          refine g_aload_n C 1 dX12_digest_147 rfl rfl rfl ?_
          refine g_iload_n C 0 dX12_digest_148 rfl rfl rfl ?_
          refine g_iconst C (v := 1) dX12_digest_149 (by decide) rfl ?_
          refine g_callVi C (As := [.int (4), .int (1)]) (q := (RX12, TX12, 36)) (kw_X12_lookedAt l D b z hM hR h13 (y := 4) (by omega)) hw_12_169 (hM) rfl (by decide) rfl rfl (Nat.le_of_ble_eq_true rfl) ⟨Nat.zero_le _, Nat.zero_le _⟩ dX12_digest_150 (pc' := 153) rfl ?_
          rintro r93 h9 ⟨er, e9⟩
          replace er : r93 = nI (wrS σ 4) := er
          subst h9; rw [er]
          refine g_i2l C dX12_digest_153 rfl ?_
          refine g_callVv C (As := [.long ((nI (wrS σ 4)).toInt64)]) (q := (RX12, TX12, 36)) (k_X12_mix l D b z hM hR ((nI (wrS σ 4)).toInt64)) hw_12_241 (hM) rfl (by decide) rfl rfl (Nat.le_of_ble_eq_true rfl) ⟨Nat.zero_le _, Nat.zero_le _⟩ dX12_digest_154 (pc' := 157) rfl ?_
          rintro h94 ⟨hM, hR, fr95⟩
          have hO : ∀ q, (q < m ∨ m + 16 ≤ q) → h94 q = h q := fun q hq => (fr95 q (by omega)).trans (hO q hq)
          refine g_iinc C (v := 5) 0 ([(1, .int (5)), (0, .ref (m))]) dX12_digest_157 rfl (by decide) (by decide) rfl rfl ?_
          refine g_goto C dX12_digest_160 (tgt := 141) (by decide) ?_
          refine g_iload_n C 0 dX12_digest_141 rfl rfl rfl ?_
          refine g_iconst C (v := 5) dX12_digest_142 (by decide) rfl ?_
          refine g_icmp_ge C dX12_digest_143 (tgt := 163) (by decide) (pc' := 146) rfl (fun _ => ?_) (fun c143 => absurd (by decide) c143)
          refine g_aload_n C 1 dX12_digest_163 rfl rfl rfl ?_
          refine g_aload_n C 1 dX12_digest_164 rfl rfl rfl ?_
          refine g_callVi C (As := []) (q := (RX12, TX12, 36)) (k_X12_earliestNow l D b z hM hR h13) hw_12_172 (hM) rfl (by decide) rfl rfl (Nat.le_of_ble_eq_true rfl) ⟨Nat.zero_le _, Nat.zero_le _⟩ dX12_digest_165 (pc' := 168) rfl ?_
          rintro r96 h9 ⟨er, e9⟩
          replace er : r96 = cEarliest σ := er
          subst h9; rw [er]
          refine g_i2l C dX12_digest_168 rfl ?_
          refine g_callVv C (As := [.long ((cEarliest σ).toInt64)]) (q := (RX12, TX12, 36)) (k_X12_mix l D b z hM hR ((cEarliest σ).toInt64)) hw_12_241 (hM) rfl (by decide) rfl rfl (Nat.le_of_ble_eq_true rfl) ⟨Nat.zero_le _, Nat.zero_le _⟩ dX12_digest_169 (pc' := 172) rfl ?_
          rintro h97 ⟨hM, hR, fr98⟩
          have hO : ∀ q, (q < m ∨ m + 16 ≤ q) → h97 q = h q := fun q hq => (fr98 q (by omega)).trans (hO q hq)
          obtain ⟨b2, b2E⟩ : ∃ b9 : Int64, b9 = mx (mx (mx (mx (mx (mx (b1) ((nI (wrS σ 0)).toInt64)) ((nI (wrS σ 1)).toInt64)) ((nI (wrS σ 2)).toInt64)) ((nI (wrS σ 3)).toInt64)) ((nI (wrS σ 4)).toInt64)) ((cEarliest σ).toInt64) := ⟨_, rfl⟩
          have hM : MdO h97 m (σ) (s18) (s19) (s20) (s23) (s24) (b2) := by rw [b2E]; exact hM
          replace b2E : b2 = mdW σ b1 := by rw [b2E]; unfold mdW; rfl
          refine g_iconst C (v := 0) dX12_digest_172 (by decide) rfl ?_
          refine g_istore_n C ([(1, .int (0)), (0, .ref (m))]) dX12_digest_173 rfl (by decide) rfl rfl ?_
          have loop174 : ∀ (N : Nat) (i : Nat) (h1 : qH) (hh : Int64), 17 - i < N → (i ≤ gN σ 16) → (hh = dgG (gB σ 17) b2 i) → (MdO h1 m σ s18 s19 s20 s23 s24 hh) → (MdR D h1 m σ f21 f22) → (∀ q, (q < m ∨ m + 16 ≤ q) → h1 q = h q) → qG X 0 0 z h1 174 [(1, .int (nI (i))), (0, .ref (m))] [] := by
            intro N
            induction N with
            | zero => intro i h1 hh hm; exact absurd hm (Nat.not_lt_zero _)
            | succ N ih174 =>
              intro i h1 hh hm hi hhe hM hR hO
              refine g_iload_n C 0 dX12_digest_174 rfl rfl rfl ?_
              refine g_aload_n C 1 dX12_digest_175 rfl rfl rfl ?_
              refine gf_12_60 C (hM) (v := .int (nI (gN σ 16))) rfl dX12_digest_176 rfl ?_
              refine g_icmp_ge C dX12_digest_179 (tgt := 199) (by decide) (pc' := 182) rfl ?_ ?_
              · intro c179
                replace c179 := (nI_leI (a := gN σ 16) (b := i) (by omega) (by omega)).mp c179
                obtain ⟨b3, b3E⟩ : ∃ b9 : Int64, b9 = hh := ⟨_, rfl⟩
                have hM : MdO h1 m (σ) (s18) (s19) (s20) (s23) (s24) (b3) := by rw [b3E]; exact hM
                replace b3E : b3 = dgG (gB σ 17) b2 (gN σ 16) := by rw [b3E]; rw [hhe, show i = gN σ 16 by omega]
                refine g_iconst C (v := 0) dX12_digest_199 (by decide) rfl ?_
                refine g_istore_n C ([(1, .int (0)), (0, .ref (m))]) dX12_digest_200 rfl (by decide) rfl rfl ?_
                refine g_iload_n C 0 dX12_digest_201 rfl rfl rfl ?_
                refine g_bipush C (v := 10) dX12_digest_202 (by decide) rfl ?_
                refine g_icmp_ge C dX12_digest_204 (tgt := 223) (by decide) (pc' := 207) rfl (fun c204 => absurd c204 (by decide)) (fun _ => ?_)
                refine g_aload_n C 1 dX12_digest_207 rfl rfl rfl ?_
                refine g_aload_n C 1 dX12_digest_208 rfl rfl rfl ?_
                refine g_iload_n C 0 dX12_digest_209 rfl rfl rfl ?_
                refine g_callVi C (As := [.int (0)]) (q := (RX12, TX12, 36)) (k_X12_howMany l D b z hM hR hn8 (0)) hw_12_233 (hM) rfl (by decide) rfl rfl (Nat.le_of_ble_eq_true rfl) ⟨Nat.zero_le _, Nat.zero_le _⟩ dX12_digest_210 (pc' := 213) rfl ?_
                rintro r99 h9 ⟨er, e9⟩
                replace er : r99 = cCount σ 0 := er
                subst h9; rw [er]
                refine g_i2l C dX12_digest_213 rfl ?_
                refine g_callVv C (As := [.long ((cCount σ 0).toInt64)]) (q := (RX12, TX12, 36)) (k_X12_mix l D b z hM hR ((cCount σ 0).toInt64)) hw_12_241 (hM) rfl (by decide) rfl rfl (Nat.le_of_ble_eq_true rfl) ⟨Nat.zero_le _, Nat.zero_le _⟩ dX12_digest_214 (pc' := 217) rfl ?_
                rintro h100 ⟨hM, hR, fr101⟩
                have hO : ∀ q, (q < m ∨ m + 16 ≤ q) → h100 q = h q := fun q hq => (fr101 q (by omega)).trans (hO q hq)
                refine g_iinc C (v := 1) 0 ([(1, .int (1)), (0, .ref (m))]) dX12_digest_217 rfl (by decide) (by decide) rfl rfl ?_
                refine g_goto C dX12_digest_220 (tgt := 201) (by decide) ?_
                refine g_iload_n C 0 dX12_digest_201 rfl rfl rfl ?_
                refine g_bipush C (v := 10) dX12_digest_202 (by decide) rfl ?_
                refine g_icmp_ge C dX12_digest_204 (tgt := 223) (by decide) (pc' := 207) rfl (fun c204 => absurd c204 (by decide)) (fun _ => ?_)
                refine g_aload_n C 1 dX12_digest_207 rfl rfl rfl ?_
                refine g_aload_n C 1 dX12_digest_208 rfl rfl rfl ?_
                refine g_iload_n C 0 dX12_digest_209 rfl rfl rfl ?_
                refine g_callVi C (As := [.int (1)]) (q := (RX12, TX12, 36)) (k_X12_howMany l D b z hM hR hn8 (1)) hw_12_233 (hM) rfl (by decide) rfl rfl (Nat.le_of_ble_eq_true rfl) ⟨Nat.zero_le _, Nat.zero_le _⟩ dX12_digest_210 (pc' := 213) rfl ?_
                rintro r102 h9 ⟨er, e9⟩
                replace er : r102 = cCount σ 1 := er
                subst h9; rw [er]
                refine g_i2l C dX12_digest_213 rfl ?_
                refine g_callVv C (As := [.long ((cCount σ 1).toInt64)]) (q := (RX12, TX12, 36)) (k_X12_mix l D b z hM hR ((cCount σ 1).toInt64)) hw_12_241 (hM) rfl (by decide) rfl rfl (Nat.le_of_ble_eq_true rfl) ⟨Nat.zero_le _, Nat.zero_le _⟩ dX12_digest_214 (pc' := 217) rfl ?_
                rintro h103 ⟨hM, hR, fr104⟩
                have hO : ∀ q, (q < m ∨ m + 16 ≤ q) → h103 q = h q := fun q hq => (fr104 q (by omega)).trans (hO q hq)
                refine g_iinc C (v := 2) 0 ([(1, .int (2)), (0, .ref (m))]) dX12_digest_217 rfl (by decide) (by decide) rfl rfl ?_
                refine g_goto C dX12_digest_220 (tgt := 201) (by decide) ?_
                refine g_iload_n C 0 dX12_digest_201 rfl rfl rfl ?_
                refine g_bipush C (v := 10) dX12_digest_202 (by decide) rfl ?_
                refine g_icmp_ge C dX12_digest_204 (tgt := 223) (by decide) (pc' := 207) rfl (fun c204 => absurd c204 (by decide)) (fun _ => ?_)
                refine g_aload_n C 1 dX12_digest_207 rfl rfl rfl ?_
                refine g_aload_n C 1 dX12_digest_208 rfl rfl rfl ?_
                refine g_iload_n C 0 dX12_digest_209 rfl rfl rfl ?_
                refine g_callVi C (As := [.int (2)]) (q := (RX12, TX12, 36)) (k_X12_howMany l D b z hM hR hn8 (2)) hw_12_233 (hM) rfl (by decide) rfl rfl (Nat.le_of_ble_eq_true rfl) ⟨Nat.zero_le _, Nat.zero_le _⟩ dX12_digest_210 (pc' := 213) rfl ?_
                rintro r105 h9 ⟨er, e9⟩
                replace er : r105 = cCount σ 2 := er
                subst h9; rw [er]
                refine g_i2l C dX12_digest_213 rfl ?_
                refine g_callVv C (As := [.long ((cCount σ 2).toInt64)]) (q := (RX12, TX12, 36)) (k_X12_mix l D b z hM hR ((cCount σ 2).toInt64)) hw_12_241 (hM) rfl (by decide) rfl rfl (Nat.le_of_ble_eq_true rfl) ⟨Nat.zero_le _, Nat.zero_le _⟩ dX12_digest_214 (pc' := 217) rfl ?_
                rintro h106 ⟨hM, hR, fr107⟩
                have hO : ∀ q, (q < m ∨ m + 16 ≤ q) → h106 q = h q := fun q hq => (fr107 q (by omega)).trans (hO q hq)
                refine g_iinc C (v := 3) 0 ([(1, .int (3)), (0, .ref (m))]) dX12_digest_217 rfl (by decide) (by decide) rfl rfl ?_
                refine g_goto C dX12_digest_220 (tgt := 201) (by decide) ?_
                refine g_iload_n C 0 dX12_digest_201 rfl rfl rfl ?_
                refine g_bipush C (v := 10) dX12_digest_202 (by decide) rfl ?_
                refine g_icmp_ge C dX12_digest_204 (tgt := 223) (by decide) (pc' := 207) rfl (fun c204 => absurd c204 (by decide)) (fun _ => ?_)
                refine g_aload_n C 1 dX12_digest_207 rfl rfl rfl ?_
                refine g_aload_n C 1 dX12_digest_208 rfl rfl rfl ?_
                refine g_iload_n C 0 dX12_digest_209 rfl rfl rfl ?_
                refine g_callVi C (As := [.int (3)]) (q := (RX12, TX12, 36)) (k_X12_howMany l D b z hM hR hn8 (3)) hw_12_233 (hM) rfl (by decide) rfl rfl (Nat.le_of_ble_eq_true rfl) ⟨Nat.zero_le _, Nat.zero_le _⟩ dX12_digest_210 (pc' := 213) rfl ?_
                rintro r108 h9 ⟨er, e9⟩
                replace er : r108 = cCount σ 3 := er
                subst h9; rw [er]
                refine g_i2l C dX12_digest_213 rfl ?_
                refine g_callVv C (As := [.long ((cCount σ 3).toInt64)]) (q := (RX12, TX12, 36)) (k_X12_mix l D b z hM hR ((cCount σ 3).toInt64)) hw_12_241 (hM) rfl (by decide) rfl rfl (Nat.le_of_ble_eq_true rfl) ⟨Nat.zero_le _, Nat.zero_le _⟩ dX12_digest_214 (pc' := 217) rfl ?_
                rintro h109 ⟨hM, hR, fr110⟩
                have hO : ∀ q, (q < m ∨ m + 16 ≤ q) → h109 q = h q := fun q hq => (fr110 q (by omega)).trans (hO q hq)
                refine g_iinc C (v := 4) 0 ([(1, .int (4)), (0, .ref (m))]) dX12_digest_217 rfl (by decide) (by decide) rfl rfl ?_
                refine g_goto C dX12_digest_220 (tgt := 201) (by decide) ?_
                refine g_iload_n C 0 dX12_digest_201 rfl rfl rfl ?_
                refine g_bipush C (v := 10) dX12_digest_202 (by decide) rfl ?_
                refine g_icmp_ge C dX12_digest_204 (tgt := 223) (by decide) (pc' := 207) rfl (fun c204 => absurd c204 (by decide)) (fun _ => ?_)
                refine g_aload_n C 1 dX12_digest_207 rfl rfl rfl ?_
                refine g_aload_n C 1 dX12_digest_208 rfl rfl rfl ?_
                refine g_iload_n C 0 dX12_digest_209 rfl rfl rfl ?_
                refine g_callVi C (As := [.int (4)]) (q := (RX12, TX12, 36)) (k_X12_howMany l D b z hM hR hn8 (4)) hw_12_233 (hM) rfl (by decide) rfl rfl (Nat.le_of_ble_eq_true rfl) ⟨Nat.zero_le _, Nat.zero_le _⟩ dX12_digest_210 (pc' := 213) rfl ?_
                rintro r111 h9 ⟨er, e9⟩
                replace er : r111 = cCount σ 4 := er
                subst h9; rw [er]
                refine g_i2l C dX12_digest_213 rfl ?_
                refine g_callVv C (As := [.long ((cCount σ 4).toInt64)]) (q := (RX12, TX12, 36)) (k_X12_mix l D b z hM hR ((cCount σ 4).toInt64)) hw_12_241 (hM) rfl (by decide) rfl rfl (Nat.le_of_ble_eq_true rfl) ⟨Nat.zero_le _, Nat.zero_le _⟩ dX12_digest_214 (pc' := 217) rfl ?_
                rintro h112 ⟨hM, hR, fr113⟩
                have hO : ∀ q, (q < m ∨ m + 16 ≤ q) → h112 q = h q := fun q hq => (fr113 q (by omega)).trans (hO q hq)
                refine g_iinc C (v := 5) 0 ([(1, .int (5)), (0, .ref (m))]) dX12_digest_217 rfl (by decide) (by decide) rfl rfl ?_
                refine g_goto C dX12_digest_220 (tgt := 201) (by decide) ?_
                refine g_iload_n C 0 dX12_digest_201 rfl rfl rfl ?_
                refine g_bipush C (v := 10) dX12_digest_202 (by decide) rfl ?_
                refine g_icmp_ge C dX12_digest_204 (tgt := 223) (by decide) (pc' := 207) rfl (fun c204 => absurd c204 (by decide)) (fun _ => ?_)
                refine g_aload_n C 1 dX12_digest_207 rfl rfl rfl ?_
                refine g_aload_n C 1 dX12_digest_208 rfl rfl rfl ?_
                refine g_iload_n C 0 dX12_digest_209 rfl rfl rfl ?_
                refine g_callVi C (As := [.int (5)]) (q := (RX12, TX12, 36)) (k_X12_howMany l D b z hM hR hn8 (5)) hw_12_233 (hM) rfl (by decide) rfl rfl (Nat.le_of_ble_eq_true rfl) ⟨Nat.zero_le _, Nat.zero_le _⟩ dX12_digest_210 (pc' := 213) rfl ?_
                rintro r114 h9 ⟨er, e9⟩
                replace er : r114 = cCount σ 5 := er
                subst h9; rw [er]
                refine g_i2l C dX12_digest_213 rfl ?_
                refine g_callVv C (As := [.long ((cCount σ 5).toInt64)]) (q := (RX12, TX12, 36)) (k_X12_mix l D b z hM hR ((cCount σ 5).toInt64)) hw_12_241 (hM) rfl (by decide) rfl rfl (Nat.le_of_ble_eq_true rfl) ⟨Nat.zero_le _, Nat.zero_le _⟩ dX12_digest_214 (pc' := 217) rfl ?_
                rintro h115 ⟨hM, hR, fr116⟩
                have hO : ∀ q, (q < m ∨ m + 16 ≤ q) → h115 q = h q := fun q hq => (fr116 q (by omega)).trans (hO q hq)
                refine g_iinc C (v := 6) 0 ([(1, .int (6)), (0, .ref (m))]) dX12_digest_217 rfl (by decide) (by decide) rfl rfl ?_
                refine g_goto C dX12_digest_220 (tgt := 201) (by decide) ?_
                refine g_iload_n C 0 dX12_digest_201 rfl rfl rfl ?_
                refine g_bipush C (v := 10) dX12_digest_202 (by decide) rfl ?_
                refine g_icmp_ge C dX12_digest_204 (tgt := 223) (by decide) (pc' := 207) rfl (fun c204 => absurd c204 (by decide)) (fun _ => ?_)
                refine g_aload_n C 1 dX12_digest_207 rfl rfl rfl ?_
                refine g_aload_n C 1 dX12_digest_208 rfl rfl rfl ?_
                refine g_iload_n C 0 dX12_digest_209 rfl rfl rfl ?_
                refine g_callVi C (As := [.int (6)]) (q := (RX12, TX12, 36)) (k_X12_howMany l D b z hM hR hn8 (6)) hw_12_233 (hM) rfl (by decide) rfl rfl (Nat.le_of_ble_eq_true rfl) ⟨Nat.zero_le _, Nat.zero_le _⟩ dX12_digest_210 (pc' := 213) rfl ?_
                rintro r117 h9 ⟨er, e9⟩
                replace er : r117 = cCount σ 6 := er
                subst h9; rw [er]
                refine g_i2l C dX12_digest_213 rfl ?_
                refine g_callVv C (As := [.long ((cCount σ 6).toInt64)]) (q := (RX12, TX12, 36)) (k_X12_mix l D b z hM hR ((cCount σ 6).toInt64)) hw_12_241 (hM) rfl (by decide) rfl rfl (Nat.le_of_ble_eq_true rfl) ⟨Nat.zero_le _, Nat.zero_le _⟩ dX12_digest_214 (pc' := 217) rfl ?_
                rintro h118 ⟨hM, hR, fr119⟩
                have hO : ∀ q, (q < m ∨ m + 16 ≤ q) → h118 q = h q := fun q hq => (fr119 q (by omega)).trans (hO q hq)
                refine g_iinc C (v := 7) 0 ([(1, .int (7)), (0, .ref (m))]) dX12_digest_217 rfl (by decide) (by decide) rfl rfl ?_
                refine g_goto C dX12_digest_220 (tgt := 201) (by decide) ?_
                refine g_iload_n C 0 dX12_digest_201 rfl rfl rfl ?_
                refine g_bipush C (v := 10) dX12_digest_202 (by decide) rfl ?_
                refine g_icmp_ge C dX12_digest_204 (tgt := 223) (by decide) (pc' := 207) rfl (fun c204 => absurd c204 (by decide)) (fun _ => ?_)
                refine g_aload_n C 1 dX12_digest_207 rfl rfl rfl ?_
                refine g_aload_n C 1 dX12_digest_208 rfl rfl rfl ?_
                refine g_iload_n C 0 dX12_digest_209 rfl rfl rfl ?_
                refine g_callVi C (As := [.int (7)]) (q := (RX12, TX12, 36)) (k_X12_howMany l D b z hM hR hn8 (7)) hw_12_233 (hM) rfl (by decide) rfl rfl (Nat.le_of_ble_eq_true rfl) ⟨Nat.zero_le _, Nat.zero_le _⟩ dX12_digest_210 (pc' := 213) rfl ?_
                rintro r120 h9 ⟨er, e9⟩
                replace er : r120 = cCount σ 7 := er
                subst h9; rw [er]
                refine g_i2l C dX12_digest_213 rfl ?_
                refine g_callVv C (As := [.long ((cCount σ 7).toInt64)]) (q := (RX12, TX12, 36)) (k_X12_mix l D b z hM hR ((cCount σ 7).toInt64)) hw_12_241 (hM) rfl (by decide) rfl rfl (Nat.le_of_ble_eq_true rfl) ⟨Nat.zero_le _, Nat.zero_le _⟩ dX12_digest_214 (pc' := 217) rfl ?_
                rintro h121 ⟨hM, hR, fr122⟩
                have hO : ∀ q, (q < m ∨ m + 16 ≤ q) → h121 q = h q := fun q hq => (fr122 q (by omega)).trans (hO q hq)
                refine g_iinc C (v := 8) 0 ([(1, .int (8)), (0, .ref (m))]) dX12_digest_217 rfl (by decide) (by decide) rfl rfl ?_
                refine g_goto C dX12_digest_220 (tgt := 201) (by decide) ?_
                refine g_iload_n C 0 dX12_digest_201 rfl rfl rfl ?_
                refine g_bipush C (v := 10) dX12_digest_202 (by decide) rfl ?_
                refine g_icmp_ge C dX12_digest_204 (tgt := 223) (by decide) (pc' := 207) rfl (fun c204 => absurd c204 (by decide)) (fun _ => ?_)
                refine g_aload_n C 1 dX12_digest_207 rfl rfl rfl ?_
                refine g_aload_n C 1 dX12_digest_208 rfl rfl rfl ?_
                refine g_iload_n C 0 dX12_digest_209 rfl rfl rfl ?_
                refine g_callVi C (As := [.int (8)]) (q := (RX12, TX12, 36)) (k_X12_howMany l D b z hM hR hn8 (8)) hw_12_233 (hM) rfl (by decide) rfl rfl (Nat.le_of_ble_eq_true rfl) ⟨Nat.zero_le _, Nat.zero_le _⟩ dX12_digest_210 (pc' := 213) rfl ?_
                rintro r123 h9 ⟨er, e9⟩
                replace er : r123 = cCount σ 8 := er
                subst h9; rw [er]
                refine g_i2l C dX12_digest_213 rfl ?_
                refine g_callVv C (As := [.long ((cCount σ 8).toInt64)]) (q := (RX12, TX12, 36)) (k_X12_mix l D b z hM hR ((cCount σ 8).toInt64)) hw_12_241 (hM) rfl (by decide) rfl rfl (Nat.le_of_ble_eq_true rfl) ⟨Nat.zero_le _, Nat.zero_le _⟩ dX12_digest_214 (pc' := 217) rfl ?_
                rintro h124 ⟨hM, hR, fr125⟩
                have hO : ∀ q, (q < m ∨ m + 16 ≤ q) → h124 q = h q := fun q hq => (fr125 q (by omega)).trans (hO q hq)
                refine g_iinc C (v := 9) 0 ([(1, .int (9)), (0, .ref (m))]) dX12_digest_217 rfl (by decide) (by decide) rfl rfl ?_
                refine g_goto C dX12_digest_220 (tgt := 201) (by decide) ?_
                refine g_iload_n C 0 dX12_digest_201 rfl rfl rfl ?_
                refine g_bipush C (v := 10) dX12_digest_202 (by decide) rfl ?_
                refine g_icmp_ge C dX12_digest_204 (tgt := 223) (by decide) (pc' := 207) rfl (fun c204 => absurd c204 (by decide)) (fun _ => ?_)
                refine g_aload_n C 1 dX12_digest_207 rfl rfl rfl ?_
                refine g_aload_n C 1 dX12_digest_208 rfl rfl rfl ?_
                refine g_iload_n C 0 dX12_digest_209 rfl rfl rfl ?_
                refine g_callVi C (As := [.int (9)]) (q := (RX12, TX12, 36)) (k_X12_howMany l D b z hM hR hn8 (9)) hw_12_233 (hM) rfl (by decide) rfl rfl (Nat.le_of_ble_eq_true rfl) ⟨Nat.zero_le _, Nat.zero_le _⟩ dX12_digest_210 (pc' := 213) rfl ?_
                rintro r126 h9 ⟨er, e9⟩
                replace er : r126 = cCount σ 9 := er
                subst h9; rw [er]
                refine g_i2l C dX12_digest_213 rfl ?_
                refine g_callVv C (As := [.long ((cCount σ 9).toInt64)]) (q := (RX12, TX12, 36)) (k_X12_mix l D b z hM hR ((cCount σ 9).toInt64)) hw_12_241 (hM) rfl (by decide) rfl rfl (Nat.le_of_ble_eq_true rfl) ⟨Nat.zero_le _, Nat.zero_le _⟩ dX12_digest_214 (pc' := 217) rfl ?_
                rintro h127 ⟨hM, hR, fr128⟩
                have hO : ∀ q, (q < m ∨ m + 16 ≤ q) → h127 q = h q := fun q hq => (fr128 q (by omega)).trans (hO q hq)
                refine g_iinc C (v := 10) 0 ([(1, .int (10)), (0, .ref (m))]) dX12_digest_217 rfl (by decide) (by decide) rfl rfl ?_
                refine g_goto C dX12_digest_220 (tgt := 201) (by decide) ?_
                refine g_iload_n C 0 dX12_digest_201 rfl rfl rfl ?_
                refine g_bipush C (v := 10) dX12_digest_202 (by decide) rfl ?_
                refine g_icmp_ge C dX12_digest_204 (tgt := 223) (by decide) (pc' := 207) rfl (fun _ => ?_) (fun c204 => absurd (by decide) c204)
                refine g_aload_n C 1 dX12_digest_223 rfl rfl rfl ?_
                refine gf_12_238 C (hM) (v := .long (mx (mx (mx (mx (mx (mx (mx (mx (mx (mx (b3) ((cCount σ 0).toInt64)) ((cCount σ 1).toInt64)) ((cCount σ 2).toInt64)) ((cCount σ 3).toInt64)) ((cCount σ 4).toInt64)) ((cCount σ 5).toInt64)) ((cCount σ 6).toInt64)) ((cCount σ 7).toInt64)) ((cCount σ 8).toInt64)) ((cCount σ 9).toInt64))) rfl dX12_digest_224 rfl ?_
                exact ret _ _ _ _ dX12_digest_227 (⟨by unfold mDigest dgN; rw [← b1E, ← b2E, ← b3E], ⟨_, _, _, _, _, _, _, _, hM, hR⟩, hO⟩)
              · intro c179
                replace c179 := (not_congr (nI_leI (a := gN σ 16) (b := i) (by omega) (by omega))).mp c179
                refine g_aload_n C 1 dX12_digest_182 rfl rfl rfl ?_
                refine g_aload_n C 1 dX12_digest_183 rfl rfl rfl ?_
                refine gf_12_34 C (hM) (v := .ref (m + 9)) rfl dX12_digest_184 rfl ?_
                refine g_iload_n C 0 dX12_digest_187 rfl rfl rfl ?_
                refine g_bald' C (hR.2.2.2.2.2.2.2.2.1) (j := i) rfl (by omega) (by decide) dX12_digest_188 rfl ?_
                refine g_i2l C dX12_digest_189 rfl ?_
                refine g_callVv C (As := [.long ((gB σ 17 (i)).toInt64)]) (q := (RX12, TX12, 36)) (k_X12_mix l D b z hM hR ((gB σ 17 (i)).toInt64)) hw_12_241 (hM) rfl (by decide) rfl rfl (Nat.le_of_ble_eq_true rfl) ⟨Nat.zero_le _, Nat.zero_le _⟩ dX12_digest_190 (pc' := 193) rfl ?_
                rintro h129 ⟨hM, hR, fr130⟩
                have hO : ∀ q, (q < m ∨ m + 16 ≤ q) → h129 q = h q := fun q hq => (fr130 q (by omega)).trans (hO q hq)
                refine g_iinc C (v := nI (i + 1)) 0 ([(1, .int (nI (i + 1))), (0, .ref (m))]) dX12_digest_193 rfl (nI_1 _) (by decide) rfl rfl ?_
                refine g_goto C dX12_digest_196 (tgt := 174) (by decide) ?_
                exact ih174 (i + 1) (h129) (mx (hh) ((gB σ 17 (i)).toInt64)) (by omega) (by omega) (by simp only [dgG]; rw [hhe]) (hM) (hR) (hO)
          exact loop174 _ (0) (h97) (b2) (Nat.lt_succ_self _) (Nat.zero_le _) (rfl) (hM) (hR) (hO)
      · intro c14
        replace c14 := (not_congr (nI_leI (a := gN σ 8) (b := i) (by omega) (by omega))).mp c14
        refine g_iconst C (v := 0) dX12_digest_17 (by decide) rfl ?_
        refine g_istore_n C ([(2, .int (0)), (1, .int (nI (i))), (0, .ref (m))]) dX12_digest_18 rfl (by decide) rfl rfl ?_
        refine g_iload_n C 0 dX12_digest_19 rfl rfl rfl ?_
        refine g_iconst C (v := 5) dX12_digest_20 (by decide) rfl ?_
        refine g_icmp_ge C dX12_digest_21 (tgt := 41) (by decide) (pc' := 24) rfl (fun c21 => absurd c21 (by decide)) (fun _ => ?_)
        refine g_aload_n C 2 dX12_digest_24 rfl rfl rfl ?_
        refine g_aload_n C 2 dX12_digest_25 rfl rfl rfl ?_
        refine g_iload_n C 1 dX12_digest_26 rfl rfl rfl ?_
        refine g_iload_n C 0 dX12_digest_27 rfl rfl rfl ?_
        refine g_callVi C (As := [.int (nI (i)), .int (0)]) (q := (RX12, TX12, 36)) (k_X12_personNow l D b z hM hR h6 (p := i) (by omega) (0)) hw_12_132 (hM) rfl (by decide) rfl rfl (Nat.le_of_ble_eq_true rfl) ⟨Nat.zero_le _, Nat.zero_le _⟩ dX12_digest_28 (pc' := 31) rfl ?_
        rintro r131 h9 ⟨er, e9⟩
        replace er : r131 = mPer σ (i) 0 := er
        subst h9; rw [er]
        refine g_i2l C dX12_digest_31 rfl ?_
        refine g_callVv C (As := [.long ((mPer σ (i) 0).toInt64)]) (q := (RX12, TX12, 36)) (k_X12_mix l D b z hM hR ((mPer σ (i) 0).toInt64)) hw_12_241 (hM) rfl (by decide) rfl rfl (Nat.le_of_ble_eq_true rfl) ⟨Nat.zero_le _, Nat.zero_le _⟩ dX12_digest_32 (pc' := 35) rfl ?_
        rintro h132 ⟨hM, hR, fr133⟩
        have hO : ∀ q, (q < m ∨ m + 16 ≤ q) → h132 q = h q := fun q hq => (fr133 q (by omega)).trans (hO q hq)
        refine g_iinc C (v := 1) 0 ([(2, .int (1)), (1, .int (nI (i))), (0, .ref (m))]) dX12_digest_35 rfl (by decide) (by decide) rfl rfl ?_
        refine g_goto C dX12_digest_38 (tgt := 19) (by decide) ?_
        refine g_iload_n C 0 dX12_digest_19 rfl rfl rfl ?_
        refine g_iconst C (v := 5) dX12_digest_20 (by decide) rfl ?_
        refine g_icmp_ge C dX12_digest_21 (tgt := 41) (by decide) (pc' := 24) rfl (fun c21 => absurd c21 (by decide)) (fun _ => ?_)
        refine g_aload_n C 2 dX12_digest_24 rfl rfl rfl ?_
        refine g_aload_n C 2 dX12_digest_25 rfl rfl rfl ?_
        refine g_iload_n C 1 dX12_digest_26 rfl rfl rfl ?_
        refine g_iload_n C 0 dX12_digest_27 rfl rfl rfl ?_
        refine g_callVi C (As := [.int (nI (i)), .int (1)]) (q := (RX12, TX12, 36)) (k_X12_personNow l D b z hM hR h6 (p := i) (by omega) (1)) hw_12_132 (hM) rfl (by decide) rfl rfl (Nat.le_of_ble_eq_true rfl) ⟨Nat.zero_le _, Nat.zero_le _⟩ dX12_digest_28 (pc' := 31) rfl ?_
        rintro r134 h9 ⟨er, e9⟩
        replace er : r134 = mPer σ (i) 1 := er
        subst h9; rw [er]
        refine g_i2l C dX12_digest_31 rfl ?_
        refine g_callVv C (As := [.long ((mPer σ (i) 1).toInt64)]) (q := (RX12, TX12, 36)) (k_X12_mix l D b z hM hR ((mPer σ (i) 1).toInt64)) hw_12_241 (hM) rfl (by decide) rfl rfl (Nat.le_of_ble_eq_true rfl) ⟨Nat.zero_le _, Nat.zero_le _⟩ dX12_digest_32 (pc' := 35) rfl ?_
        rintro h135 ⟨hM, hR, fr136⟩
        have hO : ∀ q, (q < m ∨ m + 16 ≤ q) → h135 q = h q := fun q hq => (fr136 q (by omega)).trans (hO q hq)
        refine g_iinc C (v := 2) 0 ([(2, .int (2)), (1, .int (nI (i))), (0, .ref (m))]) dX12_digest_35 rfl (by decide) (by decide) rfl rfl ?_
        refine g_goto C dX12_digest_38 (tgt := 19) (by decide) ?_
        refine g_iload_n C 0 dX12_digest_19 rfl rfl rfl ?_
        refine g_iconst C (v := 5) dX12_digest_20 (by decide) rfl ?_
        refine g_icmp_ge C dX12_digest_21 (tgt := 41) (by decide) (pc' := 24) rfl (fun c21 => absurd c21 (by decide)) (fun _ => ?_)
        refine g_aload_n C 2 dX12_digest_24 rfl rfl rfl ?_
        refine g_aload_n C 2 dX12_digest_25 rfl rfl rfl ?_
        refine g_iload_n C 1 dX12_digest_26 rfl rfl rfl ?_
        refine g_iload_n C 0 dX12_digest_27 rfl rfl rfl ?_
        refine g_callVi C (As := [.int (nI (i)), .int (2)]) (q := (RX12, TX12, 36)) (k_X12_personNow l D b z hM hR h6 (p := i) (by omega) (2)) hw_12_132 (hM) rfl (by decide) rfl rfl (Nat.le_of_ble_eq_true rfl) ⟨Nat.zero_le _, Nat.zero_le _⟩ dX12_digest_28 (pc' := 31) rfl ?_
        rintro r137 h9 ⟨er, e9⟩
        replace er : r137 = mPer σ (i) 2 := er
        subst h9; rw [er]
        refine g_i2l C dX12_digest_31 rfl ?_
        refine g_callVv C (As := [.long ((mPer σ (i) 2).toInt64)]) (q := (RX12, TX12, 36)) (k_X12_mix l D b z hM hR ((mPer σ (i) 2).toInt64)) hw_12_241 (hM) rfl (by decide) rfl rfl (Nat.le_of_ble_eq_true rfl) ⟨Nat.zero_le _, Nat.zero_le _⟩ dX12_digest_32 (pc' := 35) rfl ?_
        rintro h138 ⟨hM, hR, fr139⟩
        have hO : ∀ q, (q < m ∨ m + 16 ≤ q) → h138 q = h q := fun q hq => (fr139 q (by omega)).trans (hO q hq)
        refine g_iinc C (v := 3) 0 ([(2, .int (3)), (1, .int (nI (i))), (0, .ref (m))]) dX12_digest_35 rfl (by decide) (by decide) rfl rfl ?_
        refine g_goto C dX12_digest_38 (tgt := 19) (by decide) ?_
        refine g_iload_n C 0 dX12_digest_19 rfl rfl rfl ?_
        refine g_iconst C (v := 5) dX12_digest_20 (by decide) rfl ?_
        refine g_icmp_ge C dX12_digest_21 (tgt := 41) (by decide) (pc' := 24) rfl (fun c21 => absurd c21 (by decide)) (fun _ => ?_)
        refine g_aload_n C 2 dX12_digest_24 rfl rfl rfl ?_
        refine g_aload_n C 2 dX12_digest_25 rfl rfl rfl ?_
        refine g_iload_n C 1 dX12_digest_26 rfl rfl rfl ?_
        refine g_iload_n C 0 dX12_digest_27 rfl rfl rfl ?_
        refine g_callVi C (As := [.int (nI (i)), .int (3)]) (q := (RX12, TX12, 36)) (k_X12_personNow l D b z hM hR h6 (p := i) (by omega) (3)) hw_12_132 (hM) rfl (by decide) rfl rfl (Nat.le_of_ble_eq_true rfl) ⟨Nat.zero_le _, Nat.zero_le _⟩ dX12_digest_28 (pc' := 31) rfl ?_
        rintro r140 h9 ⟨er, e9⟩
        replace er : r140 = mPer σ (i) 3 := er
        subst h9; rw [er]
        refine g_i2l C dX12_digest_31 rfl ?_
        refine g_callVv C (As := [.long ((mPer σ (i) 3).toInt64)]) (q := (RX12, TX12, 36)) (k_X12_mix l D b z hM hR ((mPer σ (i) 3).toInt64)) hw_12_241 (hM) rfl (by decide) rfl rfl (Nat.le_of_ble_eq_true rfl) ⟨Nat.zero_le _, Nat.zero_le _⟩ dX12_digest_32 (pc' := 35) rfl ?_
        rintro h141 ⟨hM, hR, fr142⟩
        have hO : ∀ q, (q < m ∨ m + 16 ≤ q) → h141 q = h q := fun q hq => (fr142 q (by omega)).trans (hO q hq)
        refine g_iinc C (v := 4) 0 ([(2, .int (4)), (1, .int (nI (i))), (0, .ref (m))]) dX12_digest_35 rfl (by decide) (by decide) rfl rfl ?_
        refine g_goto C dX12_digest_38 (tgt := 19) (by decide) ?_
        refine g_iload_n C 0 dX12_digest_19 rfl rfl rfl ?_
        refine g_iconst C (v := 5) dX12_digest_20 (by decide) rfl ?_
        refine g_icmp_ge C dX12_digest_21 (tgt := 41) (by decide) (pc' := 24) rfl (fun c21 => absurd c21 (by decide)) (fun _ => ?_)
        refine g_aload_n C 2 dX12_digest_24 rfl rfl rfl ?_
        refine g_aload_n C 2 dX12_digest_25 rfl rfl rfl ?_
        refine g_iload_n C 1 dX12_digest_26 rfl rfl rfl ?_
        refine g_iload_n C 0 dX12_digest_27 rfl rfl rfl ?_
        refine g_callVi C (As := [.int (nI (i)), .int (4)]) (q := (RX12, TX12, 36)) (k_X12_personNow l D b z hM hR h6 (p := i) (by omega) (4)) hw_12_132 (hM) rfl (by decide) rfl rfl (Nat.le_of_ble_eq_true rfl) ⟨Nat.zero_le _, Nat.zero_le _⟩ dX12_digest_28 (pc' := 31) rfl ?_
        rintro r143 h9 ⟨er, e9⟩
        replace er : r143 = mPer σ (i) 4 := er
        subst h9; rw [er]
        refine g_i2l C dX12_digest_31 rfl ?_
        refine g_callVv C (As := [.long ((mPer σ (i) 4).toInt64)]) (q := (RX12, TX12, 36)) (k_X12_mix l D b z hM hR ((mPer σ (i) 4).toInt64)) hw_12_241 (hM) rfl (by decide) rfl rfl (Nat.le_of_ble_eq_true rfl) ⟨Nat.zero_le _, Nat.zero_le _⟩ dX12_digest_32 (pc' := 35) rfl ?_
        rintro h144 ⟨hM, hR, fr145⟩
        have hO : ∀ q, (q < m ∨ m + 16 ≤ q) → h144 q = h q := fun q hq => (fr145 q (by omega)).trans (hO q hq)
        refine g_iinc C (v := 5) 0 ([(2, .int (5)), (1, .int (nI (i))), (0, .ref (m))]) dX12_digest_35 rfl (by decide) (by decide) rfl rfl ?_
        refine g_goto C dX12_digest_38 (tgt := 19) (by decide) ?_
        refine g_iload_n C 0 dX12_digest_19 rfl rfl rfl ?_
        refine g_iconst C (v := 5) dX12_digest_20 (by decide) rfl ?_
        refine g_icmp_ge C dX12_digest_21 (tgt := 41) (by decide) (pc' := 24) rfl (fun _ => ?_) (fun c21 => absurd (by decide) c21)
        refine g_iinc C (v := nI (i + 1)) 1 ([(1, .int (nI (i + 1))), (2, .int (5)), (0, .ref (m))]) dX12_digest_41 rfl (nI_1 _) (by decide) rfl rfl ?_
        refine g_goto C dX12_digest_44 (tgt := 9) (by decide) ?_
        refine q_lsub [0, 2] (L' := [(1, .int (nI (i + 1))), (0, .ref (m))]) rfl ?_
        exact ih9 (i + 1) (h144) (mx (mx (mx (mx (mx (hh) ((mPer σ (i) 0).toInt64)) ((mPer σ (i) 1).toInt64)) ((mPer σ (i) 2).toInt64)) ((mPer σ (i) 3).toInt64)) ((mPer σ (i) 4).toInt64)) (by omega) (by omega) (by simp only [mdP]; rw [hhe]) (hM) (hR) (hO)
  exact loop9 _ (0) (h1) (821) (Nat.lt_succ_self _) (Nat.zero_le _) (rfl) (hM) (hR) (hO)

/-! the reference model: the image -/
theorem lt4d {P : Nat → Prop} (h0 : P 0) (h1 : P 1) (h2 : P 2) (h3 : P 3) : ∀ j, j < 4 → P j := fun j hj => by
  rcases (show j = 0 ∨ j = 1 ∨ j = 2 ∨ j = 3 by omega) with rfl | rfl | rfl | rfl <;> assumption
theorem lt5d {P : Nat → Prop} (h0 : P 0) (h1 : P 1) (h2 : P 2) (h3 : P 3) (h4 : P 4) : ∀ j, j < 5 → P j := fun j hj => by
  rcases (show j = 0 ∨ j = 1 ∨ j = 2 ∨ j = 3 ∨ j = 4 by omega) with rfl | rfl | rfl | rfl | rfl <;> assumption
theorem lt12d {P : Nat → Prop} (h0 : P 0) (h1 : P 1) (h2 : P 2) (h3 : P 3) (h4 : P 4) (h5 : P 5) (h6 : P 6) (h7 : P 7) (h8 : P 8) (h9 : P 9) (h10 : P 10) (h11 : P 11) : ∀ j, j < 12 → P j := fun j hj => by
  rcases (show j = 0 ∨ j = 1 ∨ j = 2 ∨ j = 3 ∨ j = 4 ∨ j = 5 ∨ j = 6 ∨ j = 7 ∨ j = 8 ∨ j = 9 ∨ j = 10 ∨ j = 11 by omega) with rfl | rfl | rfl | rfl | rfl | rfl | rfl | rfl | rfl | rfl | rfl | rfl <;> assumption
def mImage (σ : sg) : Int32 × sg := if gN σ 0 = 0 then (-103, σ) else (gI σ 5, imN σ)
noncomputable def mRestore (σ : sg) : Int32 × sg := cIf (imK σ) (gI σ 27, rsN σ) (-103, σ)
set_option maxHeartbeats 4000000 in
set_option maxRecDepth 100000 in
theorem k_X12_image (l : Launch) (D : va_G) (b z : Nat) {h : qH} {m : Nat} {σ : sg} {s18 s35 : Int64} {s19 s20 s23 s24 : Int32} {f21 f22 : Nat → Int32} (hM : MdO h m σ s18 s19 s20 s23 s24 s35) (hR : MdR D h m σ f21 f22) (h0 : gN σ 0 ≤ 1) : qMi l D b yX12_image cX12_image 2 .int 0 0 [.ref (m)] h z (fun r0 h' => (r0 = (mImage σ).1 ∧ MdlAt D h' m (mImage σ).2) ∧ ∀ q, (q < m ∨ m + 16 ≤ q) → h' q = h q) := by
  refine q_i (L := [(0, .ref (m))]) (own := RX12) (by decide) rfl (Nat.le_of_ble_eq_true rfl) rfl ?_
  intro X C ret
  have hO : ∀ q, (q < m ∨ m + 16 ≤ q) → h q = h q := fun _ _ => rfl
  refine g_aload_n C 0 dX12_image_0 rfl rfl rfl ?_
  refine gf_12_82 C (hM) (v := .int (nI (gN σ 0))) rfl dX12_image_1 rfl ?_
  refine g_if_ne C dX12_image_4 (tgt := 10) (by decide) (pc' := 7) rfl ?_ ?_
  · intro c4
    replace c4 := (not_congr (nI_eq (a := gN σ 0) (b := 0) (by omega) (by omega))).mp c4
    have hMo : h (m) = some (.inr (12, [.int (nI (gN σ 0)), .int (nI (gN σ 1)), .ref (m + 1), .int (nI (gN σ 3)), .int (nI (gN σ 4)), .int (gI σ 5), .int (nI (gN σ 6)), .ref (m + 2), .int (nI (gN σ 8)), .ref (m + 3), .ref (m + 4), .ref (m + 5), .ref (m + 6), .int (nI (gN σ 13)), .ref (m + 7), .ref (m + 8), .int (nI (gN σ 16)), .ref (m + 9), .long (s18), .int (s19), .int (s20), .ref (m + 10), .ref (m + 11), .int (s23), .int (s24), .int (nI (gN σ 25)), .int (nI (gN σ 26)), .int (gI σ 27), .int (nI (gN σ 28)), .int (nI (gN σ 29)), .int (nI (gN σ 30)), .ref (m + 12), .ref (m + 13), .ref (m + 14), .ref (m + 15), .long (s35)])) := hM
    have hR2 : h (m + 1) = some (cI D 9 (tnS σ)) := hR.1
    have hR7 : h (m + 2) = some (cI D 5 (gB σ 7)) := hR.2.1
    have hR9 : h (m + 3) = some (cI D 4 (kdS σ)) := hR.2.2.1
    have hR10 : h (m + 4) = some (cI D 4 (gB σ 10)) := hR.2.2.2.1
    have hR11 : h (m + 5) = some (cI D 4 (gB σ 11)) := hR.2.2.2.2.1
    have hR12 : h (m + 6) = some (cI D 4 (gB σ 12)) := hR.2.2.2.2.2.1
    have hR14 : h (m + 7) = some (cI D 12 (gB σ 14)) := hR.2.2.2.2.2.2.1
    have hR15 : h (m + 8) = some (cI D 12 (gB σ 15)) := hR.2.2.2.2.2.2.2.1
    have hR17 : h (m + 9) = some (cB D 16 (gB σ 17)) := hR.2.2.2.2.2.2.2.2.1
    have hR21 : h (m + 10) = some (cI D 5 (f21)) := hR.2.2.2.2.2.2.2.2.2.1
    have hR22 : h (m + 11) = some (cI D 5 (f22)) := hR.2.2.2.2.2.2.2.2.2.2.1
    have hR31 : h (m + 12) = some (cI D 5 (gB σ 31)) := hR.2.2.2.2.2.2.2.2.2.2.2.1
    have hR32 : h (m + 13) = some (cI D 4 (gB σ 32)) := hR.2.2.2.2.2.2.2.2.2.2.2.2.1
    have hR33 : h (m + 14) = some (cI D 12 (gB σ 33)) := hR.2.2.2.2.2.2.2.2.2.2.2.2.2.1
    have hR34 : h (m + 15) = some (cI D 12 (gB σ 34)) := hR.2.2.2.2.2.2.2.2.2.2.2.2.2.2
    clear hM hR
    refine g_aload_n C 0 dX12_image_10 rfl rfl rfl ?_
    refine g_iconst C (v := 1) dX12_image_11 (by decide) rfl ?_
    refine pf_12_212 C (hMo) (v := .int (1)) rfl rfl (Nat.le_of_ble_eq_true rfl) dX12_image_12 (pc' := 15) rfl (fun h1 e2 o3 => ?_)
    have hMo : h1 (m) = some (.inr (12, [.int (nI (gN σ 0)), .int (nI (gN σ 1)), .ref (m + 1), .int (nI (gN σ 3)), .int (nI (gN σ 4)), .int (gI σ 5), .int (nI (gN σ 6)), .ref (m + 2), .int (nI (gN σ 8)), .ref (m + 3), .ref (m + 4), .ref (m + 5), .ref (m + 6), .int (nI (gN σ 13)), .ref (m + 7), .ref (m + 8), .int (nI (gN σ 16)), .ref (m + 9), .long (s18), .int (s19), .int (s20), .ref (m + 10), .ref (m + 11), .int (s23), .int (s24), .int (1), .int (nI (gN σ 26)), .int (gI σ 27), .int (nI (gN σ 28)), .int (nI (gN σ 29)), .int (nI (gN σ 30)), .ref (m + 12), .ref (m + 13), .ref (m + 14), .ref (m + 15), .long (s35)])) := e2
    have hR2 : h1 (m + 1) = some (cI D 9 (tnS σ)) := (o3 _ (by omega)).trans hR2
    have hR7 : h1 (m + 2) = some (cI D 5 (gB σ 7)) := (o3 _ (by omega)).trans hR7
    have hR9 : h1 (m + 3) = some (cI D 4 (kdS σ)) := (o3 _ (by omega)).trans hR9
    have hR10 : h1 (m + 4) = some (cI D 4 (gB σ 10)) := (o3 _ (by omega)).trans hR10
    have hR11 : h1 (m + 5) = some (cI D 4 (gB σ 11)) := (o3 _ (by omega)).trans hR11
    have hR12 : h1 (m + 6) = some (cI D 4 (gB σ 12)) := (o3 _ (by omega)).trans hR12
    have hR14 : h1 (m + 7) = some (cI D 12 (gB σ 14)) := (o3 _ (by omega)).trans hR14
    have hR15 : h1 (m + 8) = some (cI D 12 (gB σ 15)) := (o3 _ (by omega)).trans hR15
    have hR17 : h1 (m + 9) = some (cB D 16 (gB σ 17)) := (o3 _ (by omega)).trans hR17
    have hR21 : h1 (m + 10) = some (cI D 5 (f21)) := (o3 _ (by omega)).trans hR21
    have hR22 : h1 (m + 11) = some (cI D 5 (f22)) := (o3 _ (by omega)).trans hR22
    have hR31 : h1 (m + 12) = some (cI D 5 (gB σ 31)) := (o3 _ (by omega)).trans hR31
    have hR32 : h1 (m + 13) = some (cI D 4 (gB σ 32)) := (o3 _ (by omega)).trans hR32
    have hR33 : h1 (m + 14) = some (cI D 12 (gB σ 33)) := (o3 _ (by omega)).trans hR33
    have hR34 : h1 (m + 15) = some (cI D 12 (gB σ 34)) := (o3 _ (by omega)).trans hR34
    have hO : ∀ q, (q < m ∨ m + 16 ≤ q) → h1 q = h q := fun q hq => (o3 q (by omega)).trans (hO q hq)
    refine g_aload_n C 0 dX12_image_15 rfl rfl rfl ?_
    refine g_aload_n C 0 dX12_image_16 rfl rfl rfl ?_
    refine gf_12_86 C (hMo) (v := .int (nI (gN σ 1))) rfl dX12_image_17 rfl ?_
    refine pf_12_215 C (hMo) (v := .int (nI (gN σ 1))) rfl rfl (Nat.le_of_ble_eq_true rfl) dX12_image_20 (pc' := 23) rfl (fun h4 e5 o6 => ?_)
    have hMo : h4 (m) = some (.inr (12, [.int (nI (gN σ 0)), .int (nI (gN σ 1)), .ref (m + 1), .int (nI (gN σ 3)), .int (nI (gN σ 4)), .int (gI σ 5), .int (nI (gN σ 6)), .ref (m + 2), .int (nI (gN σ 8)), .ref (m + 3), .ref (m + 4), .ref (m + 5), .ref (m + 6), .int (nI (gN σ 13)), .ref (m + 7), .ref (m + 8), .int (nI (gN σ 16)), .ref (m + 9), .long (s18), .int (s19), .int (s20), .ref (m + 10), .ref (m + 11), .int (s23), .int (s24), .int (1), .int (nI (gN σ 1)), .int (gI σ 27), .int (nI (gN σ 28)), .int (nI (gN σ 29)), .int (nI (gN σ 30)), .ref (m + 12), .ref (m + 13), .ref (m + 14), .ref (m + 15), .long (s35)])) := e5
    have hR2 : h4 (m + 1) = some (cI D 9 (tnS σ)) := (o6 _ (by omega)).trans hR2
    have hR7 : h4 (m + 2) = some (cI D 5 (gB σ 7)) := (o6 _ (by omega)).trans hR7
    have hR9 : h4 (m + 3) = some (cI D 4 (kdS σ)) := (o6 _ (by omega)).trans hR9
    have hR10 : h4 (m + 4) = some (cI D 4 (gB σ 10)) := (o6 _ (by omega)).trans hR10
    have hR11 : h4 (m + 5) = some (cI D 4 (gB σ 11)) := (o6 _ (by omega)).trans hR11
    have hR12 : h4 (m + 6) = some (cI D 4 (gB σ 12)) := (o6 _ (by omega)).trans hR12
    have hR14 : h4 (m + 7) = some (cI D 12 (gB σ 14)) := (o6 _ (by omega)).trans hR14
    have hR15 : h4 (m + 8) = some (cI D 12 (gB σ 15)) := (o6 _ (by omega)).trans hR15
    have hR17 : h4 (m + 9) = some (cB D 16 (gB σ 17)) := (o6 _ (by omega)).trans hR17
    have hR21 : h4 (m + 10) = some (cI D 5 (f21)) := (o6 _ (by omega)).trans hR21
    have hR22 : h4 (m + 11) = some (cI D 5 (f22)) := (o6 _ (by omega)).trans hR22
    have hR31 : h4 (m + 12) = some (cI D 5 (gB σ 31)) := (o6 _ (by omega)).trans hR31
    have hR32 : h4 (m + 13) = some (cI D 4 (gB σ 32)) := (o6 _ (by omega)).trans hR32
    have hR33 : h4 (m + 14) = some (cI D 12 (gB σ 33)) := (o6 _ (by omega)).trans hR33
    have hR34 : h4 (m + 15) = some (cI D 12 (gB σ 34)) := (o6 _ (by omega)).trans hR34
    have hO : ∀ q, (q < m ∨ m + 16 ≤ q) → h4 q = h q := fun q hq => (o6 q (by omega)).trans (hO q hq)
    refine g_aload_n C 0 dX12_image_23 rfl rfl rfl ?_
    refine g_aload_n C 0 dX12_image_24 rfl rfl rfl ?_
    refine gf_12_89 C (hMo) (v := .int (gI σ 5)) rfl dX12_image_25 rfl ?_
    refine pf_12_218 C (hMo) (v := .int (gI σ 5)) rfl rfl (Nat.le_of_ble_eq_true rfl) dX12_image_28 (pc' := 31) rfl (fun h7 e8 o9 => ?_)
    have hMo : h7 (m) = some (.inr (12, [.int (nI (gN σ 0)), .int (nI (gN σ 1)), .ref (m + 1), .int (nI (gN σ 3)), .int (nI (gN σ 4)), .int (gI σ 5), .int (nI (gN σ 6)), .ref (m + 2), .int (nI (gN σ 8)), .ref (m + 3), .ref (m + 4), .ref (m + 5), .ref (m + 6), .int (nI (gN σ 13)), .ref (m + 7), .ref (m + 8), .int (nI (gN σ 16)), .ref (m + 9), .long (s18), .int (s19), .int (s20), .ref (m + 10), .ref (m + 11), .int (s23), .int (s24), .int (1), .int (nI (gN σ 1)), .int (gI σ 5), .int (nI (gN σ 28)), .int (nI (gN σ 29)), .int (nI (gN σ 30)), .ref (m + 12), .ref (m + 13), .ref (m + 14), .ref (m + 15), .long (s35)])) := e8
    have hR2 : h7 (m + 1) = some (cI D 9 (tnS σ)) := (o9 _ (by omega)).trans hR2
    have hR7 : h7 (m + 2) = some (cI D 5 (gB σ 7)) := (o9 _ (by omega)).trans hR7
    have hR9 : h7 (m + 3) = some (cI D 4 (kdS σ)) := (o9 _ (by omega)).trans hR9
    have hR10 : h7 (m + 4) = some (cI D 4 (gB σ 10)) := (o9 _ (by omega)).trans hR10
    have hR11 : h7 (m + 5) = some (cI D 4 (gB σ 11)) := (o9 _ (by omega)).trans hR11
    have hR12 : h7 (m + 6) = some (cI D 4 (gB σ 12)) := (o9 _ (by omega)).trans hR12
    have hR14 : h7 (m + 7) = some (cI D 12 (gB σ 14)) := (o9 _ (by omega)).trans hR14
    have hR15 : h7 (m + 8) = some (cI D 12 (gB σ 15)) := (o9 _ (by omega)).trans hR15
    have hR17 : h7 (m + 9) = some (cB D 16 (gB σ 17)) := (o9 _ (by omega)).trans hR17
    have hR21 : h7 (m + 10) = some (cI D 5 (f21)) := (o9 _ (by omega)).trans hR21
    have hR22 : h7 (m + 11) = some (cI D 5 (f22)) := (o9 _ (by omega)).trans hR22
    have hR31 : h7 (m + 12) = some (cI D 5 (gB σ 31)) := (o9 _ (by omega)).trans hR31
    have hR32 : h7 (m + 13) = some (cI D 4 (gB σ 32)) := (o9 _ (by omega)).trans hR32
    have hR33 : h7 (m + 14) = some (cI D 12 (gB σ 33)) := (o9 _ (by omega)).trans hR33
    have hR34 : h7 (m + 15) = some (cI D 12 (gB σ 34)) := (o9 _ (by omega)).trans hR34
    have hO : ∀ q, (q < m ∨ m + 16 ≤ q) → h7 q = h q := fun q hq => (o9 q (by omega)).trans (hO q hq)
    refine g_aload_n C 0 dX12_image_31 rfl rfl rfl ?_
    refine g_aload_n C 0 dX12_image_32 rfl rfl rfl ?_
    refine gf_12_92 C (hMo) (v := .int (nI (gN σ 6))) rfl dX12_image_33 rfl ?_
    refine pf_12_221 C (hMo) (v := .int (nI (gN σ 6))) rfl rfl (Nat.le_of_ble_eq_true rfl) dX12_image_36 (pc' := 39) rfl (fun h10 e11 o12 => ?_)
    have hMo : h10 (m) = some (.inr (12, [.int (nI (gN σ 0)), .int (nI (gN σ 1)), .ref (m + 1), .int (nI (gN σ 3)), .int (nI (gN σ 4)), .int (gI σ 5), .int (nI (gN σ 6)), .ref (m + 2), .int (nI (gN σ 8)), .ref (m + 3), .ref (m + 4), .ref (m + 5), .ref (m + 6), .int (nI (gN σ 13)), .ref (m + 7), .ref (m + 8), .int (nI (gN σ 16)), .ref (m + 9), .long (s18), .int (s19), .int (s20), .ref (m + 10), .ref (m + 11), .int (s23), .int (s24), .int (1), .int (nI (gN σ 1)), .int (gI σ 5), .int (nI (gN σ 6)), .int (nI (gN σ 29)), .int (nI (gN σ 30)), .ref (m + 12), .ref (m + 13), .ref (m + 14), .ref (m + 15), .long (s35)])) := e11
    have hR2 : h10 (m + 1) = some (cI D 9 (tnS σ)) := (o12 _ (by omega)).trans hR2
    have hR7 : h10 (m + 2) = some (cI D 5 (gB σ 7)) := (o12 _ (by omega)).trans hR7
    have hR9 : h10 (m + 3) = some (cI D 4 (kdS σ)) := (o12 _ (by omega)).trans hR9
    have hR10 : h10 (m + 4) = some (cI D 4 (gB σ 10)) := (o12 _ (by omega)).trans hR10
    have hR11 : h10 (m + 5) = some (cI D 4 (gB σ 11)) := (o12 _ (by omega)).trans hR11
    have hR12 : h10 (m + 6) = some (cI D 4 (gB σ 12)) := (o12 _ (by omega)).trans hR12
    have hR14 : h10 (m + 7) = some (cI D 12 (gB σ 14)) := (o12 _ (by omega)).trans hR14
    have hR15 : h10 (m + 8) = some (cI D 12 (gB σ 15)) := (o12 _ (by omega)).trans hR15
    have hR17 : h10 (m + 9) = some (cB D 16 (gB σ 17)) := (o12 _ (by omega)).trans hR17
    have hR21 : h10 (m + 10) = some (cI D 5 (f21)) := (o12 _ (by omega)).trans hR21
    have hR22 : h10 (m + 11) = some (cI D 5 (f22)) := (o12 _ (by omega)).trans hR22
    have hR31 : h10 (m + 12) = some (cI D 5 (gB σ 31)) := (o12 _ (by omega)).trans hR31
    have hR32 : h10 (m + 13) = some (cI D 4 (gB σ 32)) := (o12 _ (by omega)).trans hR32
    have hR33 : h10 (m + 14) = some (cI D 12 (gB σ 33)) := (o12 _ (by omega)).trans hR33
    have hR34 : h10 (m + 15) = some (cI D 12 (gB σ 34)) := (o12 _ (by omega)).trans hR34
    have hO : ∀ q, (q < m ∨ m + 16 ≤ q) → h10 q = h q := fun q hq => (o12 q (by omega)).trans (hO q hq)
    refine g_aload_n C 0 dX12_image_39 rfl rfl rfl ?_
    refine g_aload_n C 0 dX12_image_40 rfl rfl rfl ?_
    refine gf_12_95 C (hMo) (v := .int (nI (gN σ 8))) rfl dX12_image_41 rfl ?_
    refine pf_12_224 C (hMo) (v := .int (nI (gN σ 8))) rfl rfl (Nat.le_of_ble_eq_true rfl) dX12_image_44 (pc' := 47) rfl (fun h13 e14 o15 => ?_)
    have hMo : h13 (m) = some (.inr (12, [.int (nI (gN σ 0)), .int (nI (gN σ 1)), .ref (m + 1), .int (nI (gN σ 3)), .int (nI (gN σ 4)), .int (gI σ 5), .int (nI (gN σ 6)), .ref (m + 2), .int (nI (gN σ 8)), .ref (m + 3), .ref (m + 4), .ref (m + 5), .ref (m + 6), .int (nI (gN σ 13)), .ref (m + 7), .ref (m + 8), .int (nI (gN σ 16)), .ref (m + 9), .long (s18), .int (s19), .int (s20), .ref (m + 10), .ref (m + 11), .int (s23), .int (s24), .int (1), .int (nI (gN σ 1)), .int (gI σ 5), .int (nI (gN σ 6)), .int (nI (gN σ 8)), .int (nI (gN σ 30)), .ref (m + 12), .ref (m + 13), .ref (m + 14), .ref (m + 15), .long (s35)])) := e14
    have hR2 : h13 (m + 1) = some (cI D 9 (tnS σ)) := (o15 _ (by omega)).trans hR2
    have hR7 : h13 (m + 2) = some (cI D 5 (gB σ 7)) := (o15 _ (by omega)).trans hR7
    have hR9 : h13 (m + 3) = some (cI D 4 (kdS σ)) := (o15 _ (by omega)).trans hR9
    have hR10 : h13 (m + 4) = some (cI D 4 (gB σ 10)) := (o15 _ (by omega)).trans hR10
    have hR11 : h13 (m + 5) = some (cI D 4 (gB σ 11)) := (o15 _ (by omega)).trans hR11
    have hR12 : h13 (m + 6) = some (cI D 4 (gB σ 12)) := (o15 _ (by omega)).trans hR12
    have hR14 : h13 (m + 7) = some (cI D 12 (gB σ 14)) := (o15 _ (by omega)).trans hR14
    have hR15 : h13 (m + 8) = some (cI D 12 (gB σ 15)) := (o15 _ (by omega)).trans hR15
    have hR17 : h13 (m + 9) = some (cB D 16 (gB σ 17)) := (o15 _ (by omega)).trans hR17
    have hR21 : h13 (m + 10) = some (cI D 5 (f21)) := (o15 _ (by omega)).trans hR21
    have hR22 : h13 (m + 11) = some (cI D 5 (f22)) := (o15 _ (by omega)).trans hR22
    have hR31 : h13 (m + 12) = some (cI D 5 (gB σ 31)) := (o15 _ (by omega)).trans hR31
    have hR32 : h13 (m + 13) = some (cI D 4 (gB σ 32)) := (o15 _ (by omega)).trans hR32
    have hR33 : h13 (m + 14) = some (cI D 12 (gB σ 33)) := (o15 _ (by omega)).trans hR33
    have hR34 : h13 (m + 15) = some (cI D 12 (gB σ 34)) := (o15 _ (by omega)).trans hR34
    have hO : ∀ q, (q < m ∨ m + 16 ≤ q) → h13 q = h q := fun q hq => (o15 q (by omega)).trans (hO q hq)
    refine g_aload_n C 0 dX12_image_47 rfl rfl rfl ?_
    refine g_aload_n C 0 dX12_image_48 rfl rfl rfl ?_
    refine gf_12_98 C (hMo) (v := .int (nI (gN σ 13))) rfl dX12_image_49 rfl ?_
    refine pf_12_227 C (hMo) (v := .int (nI (gN σ 13))) rfl rfl (Nat.le_of_ble_eq_true rfl) dX12_image_52 (pc' := 55) rfl (fun h16 e17 o18 => ?_)
    have hMo : h16 (m) = some (.inr (12, [.int (nI (gN σ 0)), .int (nI (gN σ 1)), .ref (m + 1), .int (nI (gN σ 3)), .int (nI (gN σ 4)), .int (gI σ 5), .int (nI (gN σ 6)), .ref (m + 2), .int (nI (gN σ 8)), .ref (m + 3), .ref (m + 4), .ref (m + 5), .ref (m + 6), .int (nI (gN σ 13)), .ref (m + 7), .ref (m + 8), .int (nI (gN σ 16)), .ref (m + 9), .long (s18), .int (s19), .int (s20), .ref (m + 10), .ref (m + 11), .int (s23), .int (s24), .int (1), .int (nI (gN σ 1)), .int (gI σ 5), .int (nI (gN σ 6)), .int (nI (gN σ 8)), .int (nI (gN σ 13)), .ref (m + 12), .ref (m + 13), .ref (m + 14), .ref (m + 15), .long (s35)])) := e17
    have hR2 : h16 (m + 1) = some (cI D 9 (tnS σ)) := (o18 _ (by omega)).trans hR2
    have hR7 : h16 (m + 2) = some (cI D 5 (gB σ 7)) := (o18 _ (by omega)).trans hR7
    have hR9 : h16 (m + 3) = some (cI D 4 (kdS σ)) := (o18 _ (by omega)).trans hR9
    have hR10 : h16 (m + 4) = some (cI D 4 (gB σ 10)) := (o18 _ (by omega)).trans hR10
    have hR11 : h16 (m + 5) = some (cI D 4 (gB σ 11)) := (o18 _ (by omega)).trans hR11
    have hR12 : h16 (m + 6) = some (cI D 4 (gB σ 12)) := (o18 _ (by omega)).trans hR12
    have hR14 : h16 (m + 7) = some (cI D 12 (gB σ 14)) := (o18 _ (by omega)).trans hR14
    have hR15 : h16 (m + 8) = some (cI D 12 (gB σ 15)) := (o18 _ (by omega)).trans hR15
    have hR17 : h16 (m + 9) = some (cB D 16 (gB σ 17)) := (o18 _ (by omega)).trans hR17
    have hR21 : h16 (m + 10) = some (cI D 5 (f21)) := (o18 _ (by omega)).trans hR21
    have hR22 : h16 (m + 11) = some (cI D 5 (f22)) := (o18 _ (by omega)).trans hR22
    have hR31 : h16 (m + 12) = some (cI D 5 (gB σ 31)) := (o18 _ (by omega)).trans hR31
    have hR32 : h16 (m + 13) = some (cI D 4 (gB σ 32)) := (o18 _ (by omega)).trans hR32
    have hR33 : h16 (m + 14) = some (cI D 12 (gB σ 33)) := (o18 _ (by omega)).trans hR33
    have hR34 : h16 (m + 15) = some (cI D 12 (gB σ 34)) := (o18 _ (by omega)).trans hR34
    have hO : ∀ q, (q < m ∨ m + 16 ≤ q) → h16 q = h q := fun q hq => (o18 q (by omega)).trans (hO q hq)
    refine g_iconst C (v := 0) dX12_image_55 (by decide) rfl ?_
    refine g_istore_n C ([(1, .int (0)), (0, .ref (m))]) dX12_image_56 rfl (by decide) rfl rfl ?_
    refine g_iload_n C 0 dX12_image_57 rfl rfl rfl ?_
    refine g_iconst C (v := 4) dX12_image_58 (by decide) rfl ?_
    refine g_icmp_gt C dX12_image_59 (tgt := 80) (by decide) (pc' := 62) rfl (fun c59 => absurd c59 (by decide)) (fun _ => ?_)
    refine g_aload_n C 1 dX12_image_62 rfl rfl rfl ?_
    refine gf_12_44 C (hMo) (v := .ref (m + 12)) rfl dX12_image_63 rfl ?_
    refine g_iload_n C 0 dX12_image_66 rfl rfl rfl ?_
    refine g_aload_n C 1 dX12_image_67 rfl rfl rfl ?_
    refine gf_12_13 C (hMo) (v := .ref (m + 2)) rfl dX12_image_68 rfl ?_
    refine g_iload_n C 0 dX12_image_71 rfl rfl rfl ?_
    refine g_iald' C (hR7) (j := 0) rfl (by omega) (by decide) dX12_image_72 rfl ?_
    refine g_iast' C (hR31) (j := 0) rfl (by omega) (by decide) dX12_image_73 (pc' := 74) rfl (fun h19 e20 o21 => ?_)
    have hR31 : h19 (m + 12) = some (cI D 5 (upd (gB σ 31) (0) (gB σ 7 (0)))) := e20
    have hMo : h19 (m) = some (.inr (12, [.int (nI (gN σ 0)), .int (nI (gN σ 1)), .ref (m + 1), .int (nI (gN σ 3)), .int (nI (gN σ 4)), .int (gI σ 5), .int (nI (gN σ 6)), .ref (m + 2), .int (nI (gN σ 8)), .ref (m + 3), .ref (m + 4), .ref (m + 5), .ref (m + 6), .int (nI (gN σ 13)), .ref (m + 7), .ref (m + 8), .int (nI (gN σ 16)), .ref (m + 9), .long (s18), .int (s19), .int (s20), .ref (m + 10), .ref (m + 11), .int (s23), .int (s24), .int (1), .int (nI (gN σ 1)), .int (gI σ 5), .int (nI (gN σ 6)), .int (nI (gN σ 8)), .int (nI (gN σ 13)), .ref (m + 12), .ref (m + 13), .ref (m + 14), .ref (m + 15), .long (s35)])) := (o21 _ (by omega)).trans hMo
    have hR2 : h19 (m + 1) = some (cI D 9 (tnS σ)) := (o21 _ (by omega)).trans hR2
    have hR7 : h19 (m + 2) = some (cI D 5 (gB σ 7)) := (o21 _ (by omega)).trans hR7
    have hR9 : h19 (m + 3) = some (cI D 4 (kdS σ)) := (o21 _ (by omega)).trans hR9
    have hR10 : h19 (m + 4) = some (cI D 4 (gB σ 10)) := (o21 _ (by omega)).trans hR10
    have hR11 : h19 (m + 5) = some (cI D 4 (gB σ 11)) := (o21 _ (by omega)).trans hR11
    have hR12 : h19 (m + 6) = some (cI D 4 (gB σ 12)) := (o21 _ (by omega)).trans hR12
    have hR14 : h19 (m + 7) = some (cI D 12 (gB σ 14)) := (o21 _ (by omega)).trans hR14
    have hR15 : h19 (m + 8) = some (cI D 12 (gB σ 15)) := (o21 _ (by omega)).trans hR15
    have hR17 : h19 (m + 9) = some (cB D 16 (gB σ 17)) := (o21 _ (by omega)).trans hR17
    have hR21 : h19 (m + 10) = some (cI D 5 (f21)) := (o21 _ (by omega)).trans hR21
    have hR22 : h19 (m + 11) = some (cI D 5 (f22)) := (o21 _ (by omega)).trans hR22
    have hR32 : h19 (m + 13) = some (cI D 4 (gB σ 32)) := (o21 _ (by omega)).trans hR32
    have hR33 : h19 (m + 14) = some (cI D 12 (gB σ 33)) := (o21 _ (by omega)).trans hR33
    have hR34 : h19 (m + 15) = some (cI D 12 (gB σ 34)) := (o21 _ (by omega)).trans hR34
    have hO : ∀ q, (q < m ∨ m + 16 ≤ q) → h19 q = h q := fun q hq => (o21 q (by omega)).trans (hO q hq)
    refine g_iinc C (v := 1) 0 ([(1, .int (1)), (0, .ref (m))]) dX12_image_74 rfl (by decide) (by decide) rfl rfl ?_
    refine g_goto C dX12_image_77 (tgt := 57) (by decide) ?_
    refine g_iload_n C 0 dX12_image_57 rfl rfl rfl ?_
    refine g_iconst C (v := 4) dX12_image_58 (by decide) rfl ?_
    refine g_icmp_gt C dX12_image_59 (tgt := 80) (by decide) (pc' := 62) rfl (fun c59 => absurd c59 (by decide)) (fun _ => ?_)
    refine g_aload_n C 1 dX12_image_62 rfl rfl rfl ?_
    refine gf_12_44 C (hMo) (v := .ref (m + 12)) rfl dX12_image_63 rfl ?_
    refine g_iload_n C 0 dX12_image_66 rfl rfl rfl ?_
    refine g_aload_n C 1 dX12_image_67 rfl rfl rfl ?_
    refine gf_12_13 C (hMo) (v := .ref (m + 2)) rfl dX12_image_68 rfl ?_
    refine g_iload_n C 0 dX12_image_71 rfl rfl rfl ?_
    refine g_iald' C (hR7) (j := 1) rfl (by omega) (by decide) dX12_image_72 rfl ?_
    refine g_iast' C (hR31) (j := 1) rfl (by omega) (by decide) dX12_image_73 (pc' := 74) rfl (fun h22 e23 o24 => ?_)
    have hR31 : h22 (m + 12) = some (cI D 5 (upd (upd (gB σ 31) (0) (gB σ 7 (0))) (1) (gB σ 7 (1)))) := e23
    have hMo : h22 (m) = some (.inr (12, [.int (nI (gN σ 0)), .int (nI (gN σ 1)), .ref (m + 1), .int (nI (gN σ 3)), .int (nI (gN σ 4)), .int (gI σ 5), .int (nI (gN σ 6)), .ref (m + 2), .int (nI (gN σ 8)), .ref (m + 3), .ref (m + 4), .ref (m + 5), .ref (m + 6), .int (nI (gN σ 13)), .ref (m + 7), .ref (m + 8), .int (nI (gN σ 16)), .ref (m + 9), .long (s18), .int (s19), .int (s20), .ref (m + 10), .ref (m + 11), .int (s23), .int (s24), .int (1), .int (nI (gN σ 1)), .int (gI σ 5), .int (nI (gN σ 6)), .int (nI (gN σ 8)), .int (nI (gN σ 13)), .ref (m + 12), .ref (m + 13), .ref (m + 14), .ref (m + 15), .long (s35)])) := (o24 _ (by omega)).trans hMo
    have hR2 : h22 (m + 1) = some (cI D 9 (tnS σ)) := (o24 _ (by omega)).trans hR2
    have hR7 : h22 (m + 2) = some (cI D 5 (gB σ 7)) := (o24 _ (by omega)).trans hR7
    have hR9 : h22 (m + 3) = some (cI D 4 (kdS σ)) := (o24 _ (by omega)).trans hR9
    have hR10 : h22 (m + 4) = some (cI D 4 (gB σ 10)) := (o24 _ (by omega)).trans hR10
    have hR11 : h22 (m + 5) = some (cI D 4 (gB σ 11)) := (o24 _ (by omega)).trans hR11
    have hR12 : h22 (m + 6) = some (cI D 4 (gB σ 12)) := (o24 _ (by omega)).trans hR12
    have hR14 : h22 (m + 7) = some (cI D 12 (gB σ 14)) := (o24 _ (by omega)).trans hR14
    have hR15 : h22 (m + 8) = some (cI D 12 (gB σ 15)) := (o24 _ (by omega)).trans hR15
    have hR17 : h22 (m + 9) = some (cB D 16 (gB σ 17)) := (o24 _ (by omega)).trans hR17
    have hR21 : h22 (m + 10) = some (cI D 5 (f21)) := (o24 _ (by omega)).trans hR21
    have hR22 : h22 (m + 11) = some (cI D 5 (f22)) := (o24 _ (by omega)).trans hR22
    have hR32 : h22 (m + 13) = some (cI D 4 (gB σ 32)) := (o24 _ (by omega)).trans hR32
    have hR33 : h22 (m + 14) = some (cI D 12 (gB σ 33)) := (o24 _ (by omega)).trans hR33
    have hR34 : h22 (m + 15) = some (cI D 12 (gB σ 34)) := (o24 _ (by omega)).trans hR34
    have hO : ∀ q, (q < m ∨ m + 16 ≤ q) → h22 q = h q := fun q hq => (o24 q (by omega)).trans (hO q hq)
    refine g_iinc C (v := 2) 0 ([(1, .int (2)), (0, .ref (m))]) dX12_image_74 rfl (by decide) (by decide) rfl rfl ?_
    refine g_goto C dX12_image_77 (tgt := 57) (by decide) ?_
    refine g_iload_n C 0 dX12_image_57 rfl rfl rfl ?_
    refine g_iconst C (v := 4) dX12_image_58 (by decide) rfl ?_
    refine g_icmp_gt C dX12_image_59 (tgt := 80) (by decide) (pc' := 62) rfl (fun c59 => absurd c59 (by decide)) (fun _ => ?_)
    refine g_aload_n C 1 dX12_image_62 rfl rfl rfl ?_
    refine gf_12_44 C (hMo) (v := .ref (m + 12)) rfl dX12_image_63 rfl ?_
    refine g_iload_n C 0 dX12_image_66 rfl rfl rfl ?_
    refine g_aload_n C 1 dX12_image_67 rfl rfl rfl ?_
    refine gf_12_13 C (hMo) (v := .ref (m + 2)) rfl dX12_image_68 rfl ?_
    refine g_iload_n C 0 dX12_image_71 rfl rfl rfl ?_
    refine g_iald' C (hR7) (j := 2) rfl (by omega) (by decide) dX12_image_72 rfl ?_
    refine g_iast' C (hR31) (j := 2) rfl (by omega) (by decide) dX12_image_73 (pc' := 74) rfl (fun h25 e26 o27 => ?_)
    have hR31 : h25 (m + 12) = some (cI D 5 (upd (upd (upd (gB σ 31) (0) (gB σ 7 (0))) (1) (gB σ 7 (1))) (2) (gB σ 7 (2)))) := e26
    have hMo : h25 (m) = some (.inr (12, [.int (nI (gN σ 0)), .int (nI (gN σ 1)), .ref (m + 1), .int (nI (gN σ 3)), .int (nI (gN σ 4)), .int (gI σ 5), .int (nI (gN σ 6)), .ref (m + 2), .int (nI (gN σ 8)), .ref (m + 3), .ref (m + 4), .ref (m + 5), .ref (m + 6), .int (nI (gN σ 13)), .ref (m + 7), .ref (m + 8), .int (nI (gN σ 16)), .ref (m + 9), .long (s18), .int (s19), .int (s20), .ref (m + 10), .ref (m + 11), .int (s23), .int (s24), .int (1), .int (nI (gN σ 1)), .int (gI σ 5), .int (nI (gN σ 6)), .int (nI (gN σ 8)), .int (nI (gN σ 13)), .ref (m + 12), .ref (m + 13), .ref (m + 14), .ref (m + 15), .long (s35)])) := (o27 _ (by omega)).trans hMo
    have hR2 : h25 (m + 1) = some (cI D 9 (tnS σ)) := (o27 _ (by omega)).trans hR2
    have hR7 : h25 (m + 2) = some (cI D 5 (gB σ 7)) := (o27 _ (by omega)).trans hR7
    have hR9 : h25 (m + 3) = some (cI D 4 (kdS σ)) := (o27 _ (by omega)).trans hR9
    have hR10 : h25 (m + 4) = some (cI D 4 (gB σ 10)) := (o27 _ (by omega)).trans hR10
    have hR11 : h25 (m + 5) = some (cI D 4 (gB σ 11)) := (o27 _ (by omega)).trans hR11
    have hR12 : h25 (m + 6) = some (cI D 4 (gB σ 12)) := (o27 _ (by omega)).trans hR12
    have hR14 : h25 (m + 7) = some (cI D 12 (gB σ 14)) := (o27 _ (by omega)).trans hR14
    have hR15 : h25 (m + 8) = some (cI D 12 (gB σ 15)) := (o27 _ (by omega)).trans hR15
    have hR17 : h25 (m + 9) = some (cB D 16 (gB σ 17)) := (o27 _ (by omega)).trans hR17
    have hR21 : h25 (m + 10) = some (cI D 5 (f21)) := (o27 _ (by omega)).trans hR21
    have hR22 : h25 (m + 11) = some (cI D 5 (f22)) := (o27 _ (by omega)).trans hR22
    have hR32 : h25 (m + 13) = some (cI D 4 (gB σ 32)) := (o27 _ (by omega)).trans hR32
    have hR33 : h25 (m + 14) = some (cI D 12 (gB σ 33)) := (o27 _ (by omega)).trans hR33
    have hR34 : h25 (m + 15) = some (cI D 12 (gB σ 34)) := (o27 _ (by omega)).trans hR34
    have hO : ∀ q, (q < m ∨ m + 16 ≤ q) → h25 q = h q := fun q hq => (o27 q (by omega)).trans (hO q hq)
    refine g_iinc C (v := 3) 0 ([(1, .int (3)), (0, .ref (m))]) dX12_image_74 rfl (by decide) (by decide) rfl rfl ?_
    refine g_goto C dX12_image_77 (tgt := 57) (by decide) ?_
    refine g_iload_n C 0 dX12_image_57 rfl rfl rfl ?_
    refine g_iconst C (v := 4) dX12_image_58 (by decide) rfl ?_
    refine g_icmp_gt C dX12_image_59 (tgt := 80) (by decide) (pc' := 62) rfl (fun c59 => absurd c59 (by decide)) (fun _ => ?_)
    refine g_aload_n C 1 dX12_image_62 rfl rfl rfl ?_
    refine gf_12_44 C (hMo) (v := .ref (m + 12)) rfl dX12_image_63 rfl ?_
    refine g_iload_n C 0 dX12_image_66 rfl rfl rfl ?_
    refine g_aload_n C 1 dX12_image_67 rfl rfl rfl ?_
    refine gf_12_13 C (hMo) (v := .ref (m + 2)) rfl dX12_image_68 rfl ?_
    refine g_iload_n C 0 dX12_image_71 rfl rfl rfl ?_
    refine g_iald' C (hR7) (j := 3) rfl (by omega) (by decide) dX12_image_72 rfl ?_
    refine g_iast' C (hR31) (j := 3) rfl (by omega) (by decide) dX12_image_73 (pc' := 74) rfl (fun h28 e29 o30 => ?_)
    have hR31 : h28 (m + 12) = some (cI D 5 (upd (upd (upd (upd (gB σ 31) (0) (gB σ 7 (0))) (1) (gB σ 7 (1))) (2) (gB σ 7 (2))) (3) (gB σ 7 (3)))) := e29
    have hMo : h28 (m) = some (.inr (12, [.int (nI (gN σ 0)), .int (nI (gN σ 1)), .ref (m + 1), .int (nI (gN σ 3)), .int (nI (gN σ 4)), .int (gI σ 5), .int (nI (gN σ 6)), .ref (m + 2), .int (nI (gN σ 8)), .ref (m + 3), .ref (m + 4), .ref (m + 5), .ref (m + 6), .int (nI (gN σ 13)), .ref (m + 7), .ref (m + 8), .int (nI (gN σ 16)), .ref (m + 9), .long (s18), .int (s19), .int (s20), .ref (m + 10), .ref (m + 11), .int (s23), .int (s24), .int (1), .int (nI (gN σ 1)), .int (gI σ 5), .int (nI (gN σ 6)), .int (nI (gN σ 8)), .int (nI (gN σ 13)), .ref (m + 12), .ref (m + 13), .ref (m + 14), .ref (m + 15), .long (s35)])) := (o30 _ (by omega)).trans hMo
    have hR2 : h28 (m + 1) = some (cI D 9 (tnS σ)) := (o30 _ (by omega)).trans hR2
    have hR7 : h28 (m + 2) = some (cI D 5 (gB σ 7)) := (o30 _ (by omega)).trans hR7
    have hR9 : h28 (m + 3) = some (cI D 4 (kdS σ)) := (o30 _ (by omega)).trans hR9
    have hR10 : h28 (m + 4) = some (cI D 4 (gB σ 10)) := (o30 _ (by omega)).trans hR10
    have hR11 : h28 (m + 5) = some (cI D 4 (gB σ 11)) := (o30 _ (by omega)).trans hR11
    have hR12 : h28 (m + 6) = some (cI D 4 (gB σ 12)) := (o30 _ (by omega)).trans hR12
    have hR14 : h28 (m + 7) = some (cI D 12 (gB σ 14)) := (o30 _ (by omega)).trans hR14
    have hR15 : h28 (m + 8) = some (cI D 12 (gB σ 15)) := (o30 _ (by omega)).trans hR15
    have hR17 : h28 (m + 9) = some (cB D 16 (gB σ 17)) := (o30 _ (by omega)).trans hR17
    have hR21 : h28 (m + 10) = some (cI D 5 (f21)) := (o30 _ (by omega)).trans hR21
    have hR22 : h28 (m + 11) = some (cI D 5 (f22)) := (o30 _ (by omega)).trans hR22
    have hR32 : h28 (m + 13) = some (cI D 4 (gB σ 32)) := (o30 _ (by omega)).trans hR32
    have hR33 : h28 (m + 14) = some (cI D 12 (gB σ 33)) := (o30 _ (by omega)).trans hR33
    have hR34 : h28 (m + 15) = some (cI D 12 (gB σ 34)) := (o30 _ (by omega)).trans hR34
    have hO : ∀ q, (q < m ∨ m + 16 ≤ q) → h28 q = h q := fun q hq => (o30 q (by omega)).trans (hO q hq)
    refine g_iinc C (v := 4) 0 ([(1, .int (4)), (0, .ref (m))]) dX12_image_74 rfl (by decide) (by decide) rfl rfl ?_
    refine g_goto C dX12_image_77 (tgt := 57) (by decide) ?_
    refine g_iload_n C 0 dX12_image_57 rfl rfl rfl ?_
    refine g_iconst C (v := 4) dX12_image_58 (by decide) rfl ?_
    refine g_icmp_gt C dX12_image_59 (tgt := 80) (by decide) (pc' := 62) rfl (fun c59 => absurd c59 (by decide)) (fun _ => ?_)
    refine g_aload_n C 1 dX12_image_62 rfl rfl rfl ?_
    refine gf_12_44 C (hMo) (v := .ref (m + 12)) rfl dX12_image_63 rfl ?_
    refine g_iload_n C 0 dX12_image_66 rfl rfl rfl ?_
    refine g_aload_n C 1 dX12_image_67 rfl rfl rfl ?_
    refine gf_12_13 C (hMo) (v := .ref (m + 2)) rfl dX12_image_68 rfl ?_
    refine g_iload_n C 0 dX12_image_71 rfl rfl rfl ?_
    refine g_iald' C (hR7) (j := 4) rfl (by omega) (by decide) dX12_image_72 rfl ?_
    refine g_iast' C (hR31) (j := 4) rfl (by omega) (by decide) dX12_image_73 (pc' := 74) rfl (fun h31 e32 o33 => ?_)
    have hR31 : h31 (m + 12) = some (cI D 5 (upd (upd (upd (upd (upd (gB σ 31) (0) (gB σ 7 (0))) (1) (gB σ 7 (1))) (2) (gB σ 7 (2))) (3) (gB σ 7 (3))) (4) (gB σ 7 (4)))) := e32
    have hMo : h31 (m) = some (.inr (12, [.int (nI (gN σ 0)), .int (nI (gN σ 1)), .ref (m + 1), .int (nI (gN σ 3)), .int (nI (gN σ 4)), .int (gI σ 5), .int (nI (gN σ 6)), .ref (m + 2), .int (nI (gN σ 8)), .ref (m + 3), .ref (m + 4), .ref (m + 5), .ref (m + 6), .int (nI (gN σ 13)), .ref (m + 7), .ref (m + 8), .int (nI (gN σ 16)), .ref (m + 9), .long (s18), .int (s19), .int (s20), .ref (m + 10), .ref (m + 11), .int (s23), .int (s24), .int (1), .int (nI (gN σ 1)), .int (gI σ 5), .int (nI (gN σ 6)), .int (nI (gN σ 8)), .int (nI (gN σ 13)), .ref (m + 12), .ref (m + 13), .ref (m + 14), .ref (m + 15), .long (s35)])) := (o33 _ (by omega)).trans hMo
    have hR2 : h31 (m + 1) = some (cI D 9 (tnS σ)) := (o33 _ (by omega)).trans hR2
    have hR7 : h31 (m + 2) = some (cI D 5 (gB σ 7)) := (o33 _ (by omega)).trans hR7
    have hR9 : h31 (m + 3) = some (cI D 4 (kdS σ)) := (o33 _ (by omega)).trans hR9
    have hR10 : h31 (m + 4) = some (cI D 4 (gB σ 10)) := (o33 _ (by omega)).trans hR10
    have hR11 : h31 (m + 5) = some (cI D 4 (gB σ 11)) := (o33 _ (by omega)).trans hR11
    have hR12 : h31 (m + 6) = some (cI D 4 (gB σ 12)) := (o33 _ (by omega)).trans hR12
    have hR14 : h31 (m + 7) = some (cI D 12 (gB σ 14)) := (o33 _ (by omega)).trans hR14
    have hR15 : h31 (m + 8) = some (cI D 12 (gB σ 15)) := (o33 _ (by omega)).trans hR15
    have hR17 : h31 (m + 9) = some (cB D 16 (gB σ 17)) := (o33 _ (by omega)).trans hR17
    have hR21 : h31 (m + 10) = some (cI D 5 (f21)) := (o33 _ (by omega)).trans hR21
    have hR22 : h31 (m + 11) = some (cI D 5 (f22)) := (o33 _ (by omega)).trans hR22
    have hR32 : h31 (m + 13) = some (cI D 4 (gB σ 32)) := (o33 _ (by omega)).trans hR32
    have hR33 : h31 (m + 14) = some (cI D 12 (gB σ 33)) := (o33 _ (by omega)).trans hR33
    have hR34 : h31 (m + 15) = some (cI D 12 (gB σ 34)) := (o33 _ (by omega)).trans hR34
    have hO : ∀ q, (q < m ∨ m + 16 ≤ q) → h31 q = h q := fun q hq => (o33 q (by omega)).trans (hO q hq)
    refine g_iinc C (v := 5) 0 ([(1, .int (5)), (0, .ref (m))]) dX12_image_74 rfl (by decide) (by decide) rfl rfl ?_
    refine g_goto C dX12_image_77 (tgt := 57) (by decide) ?_
    refine g_iload_n C 0 dX12_image_57 rfl rfl rfl ?_
    refine g_iconst C (v := 4) dX12_image_58 (by decide) rfl ?_
    refine g_icmp_gt C dX12_image_59 (tgt := 80) (by decide) (pc' := 62) rfl (fun _ => ?_) (fun c59 => absurd (by decide) c59)
    refine g_iconst C (v := 0) dX12_image_80 (by decide) rfl ?_
    refine g_istore_n C ([(1, .int (0)), (0, .ref (m))]) dX12_image_81 rfl (by decide) rfl rfl ?_
    refine g_iload_n C 0 dX12_image_82 rfl rfl rfl ?_
    refine g_iconst C (v := 4) dX12_image_83 (by decide) rfl ?_
    refine g_icmp_ge C dX12_image_84 (tgt := 105) (by decide) (pc' := 87) rfl (fun c84 => absurd c84 (by decide)) (fun _ => ?_)
    refine g_aload_n C 1 dX12_image_87 rfl rfl rfl ?_
    refine gf_12_47 C (hMo) (v := .ref (m + 13)) rfl dX12_image_88 rfl ?_
    refine g_iload_n C 0 dX12_image_91 rfl rfl rfl ?_
    refine g_aload_n C 1 dX12_image_92 rfl rfl rfl ?_
    refine gf_12_25 C (hMo) (v := .ref (m + 6)) rfl dX12_image_93 rfl ?_
    refine g_iload_n C 0 dX12_image_96 rfl rfl rfl ?_
    refine g_iald' C (hR12) (j := 0) rfl (by omega) (by decide) dX12_image_97 rfl ?_
    refine g_iast' C (hR32) (j := 0) rfl (by omega) (by decide) dX12_image_98 (pc' := 99) rfl (fun h34 e35 o36 => ?_)
    have hR32 : h34 (m + 13) = some (cI D 4 (upd (gB σ 32) (0) (gB σ 12 (0)))) := e35
    have hMo : h34 (m) = some (.inr (12, [.int (nI (gN σ 0)), .int (nI (gN σ 1)), .ref (m + 1), .int (nI (gN σ 3)), .int (nI (gN σ 4)), .int (gI σ 5), .int (nI (gN σ 6)), .ref (m + 2), .int (nI (gN σ 8)), .ref (m + 3), .ref (m + 4), .ref (m + 5), .ref (m + 6), .int (nI (gN σ 13)), .ref (m + 7), .ref (m + 8), .int (nI (gN σ 16)), .ref (m + 9), .long (s18), .int (s19), .int (s20), .ref (m + 10), .ref (m + 11), .int (s23), .int (s24), .int (1), .int (nI (gN σ 1)), .int (gI σ 5), .int (nI (gN σ 6)), .int (nI (gN σ 8)), .int (nI (gN σ 13)), .ref (m + 12), .ref (m + 13), .ref (m + 14), .ref (m + 15), .long (s35)])) := (o36 _ (by omega)).trans hMo
    have hR2 : h34 (m + 1) = some (cI D 9 (tnS σ)) := (o36 _ (by omega)).trans hR2
    have hR7 : h34 (m + 2) = some (cI D 5 (gB σ 7)) := (o36 _ (by omega)).trans hR7
    have hR9 : h34 (m + 3) = some (cI D 4 (kdS σ)) := (o36 _ (by omega)).trans hR9
    have hR10 : h34 (m + 4) = some (cI D 4 (gB σ 10)) := (o36 _ (by omega)).trans hR10
    have hR11 : h34 (m + 5) = some (cI D 4 (gB σ 11)) := (o36 _ (by omega)).trans hR11
    have hR12 : h34 (m + 6) = some (cI D 4 (gB σ 12)) := (o36 _ (by omega)).trans hR12
    have hR14 : h34 (m + 7) = some (cI D 12 (gB σ 14)) := (o36 _ (by omega)).trans hR14
    have hR15 : h34 (m + 8) = some (cI D 12 (gB σ 15)) := (o36 _ (by omega)).trans hR15
    have hR17 : h34 (m + 9) = some (cB D 16 (gB σ 17)) := (o36 _ (by omega)).trans hR17
    have hR21 : h34 (m + 10) = some (cI D 5 (f21)) := (o36 _ (by omega)).trans hR21
    have hR22 : h34 (m + 11) = some (cI D 5 (f22)) := (o36 _ (by omega)).trans hR22
    have hR31 : h34 (m + 12) = some (cI D 5 (upd (upd (upd (upd (upd (gB σ 31) (0) (gB σ 7 (0))) (1) (gB σ 7 (1))) (2) (gB σ 7 (2))) (3) (gB σ 7 (3))) (4) (gB σ 7 (4)))) := (o36 _ (by omega)).trans hR31
    have hR33 : h34 (m + 14) = some (cI D 12 (gB σ 33)) := (o36 _ (by omega)).trans hR33
    have hR34 : h34 (m + 15) = some (cI D 12 (gB σ 34)) := (o36 _ (by omega)).trans hR34
    have hO : ∀ q, (q < m ∨ m + 16 ≤ q) → h34 q = h q := fun q hq => (o36 q (by omega)).trans (hO q hq)
    refine g_iinc C (v := 1) 0 ([(1, .int (1)), (0, .ref (m))]) dX12_image_99 rfl (by decide) (by decide) rfl rfl ?_
    refine g_goto C dX12_image_102 (tgt := 82) (by decide) ?_
    refine g_iload_n C 0 dX12_image_82 rfl rfl rfl ?_
    refine g_iconst C (v := 4) dX12_image_83 (by decide) rfl ?_
    refine g_icmp_ge C dX12_image_84 (tgt := 105) (by decide) (pc' := 87) rfl (fun c84 => absurd c84 (by decide)) (fun _ => ?_)
    refine g_aload_n C 1 dX12_image_87 rfl rfl rfl ?_
    refine gf_12_47 C (hMo) (v := .ref (m + 13)) rfl dX12_image_88 rfl ?_
    refine g_iload_n C 0 dX12_image_91 rfl rfl rfl ?_
    refine g_aload_n C 1 dX12_image_92 rfl rfl rfl ?_
    refine gf_12_25 C (hMo) (v := .ref (m + 6)) rfl dX12_image_93 rfl ?_
    refine g_iload_n C 0 dX12_image_96 rfl rfl rfl ?_
    refine g_iald' C (hR12) (j := 1) rfl (by omega) (by decide) dX12_image_97 rfl ?_
    refine g_iast' C (hR32) (j := 1) rfl (by omega) (by decide) dX12_image_98 (pc' := 99) rfl (fun h37 e38 o39 => ?_)
    have hR32 : h37 (m + 13) = some (cI D 4 (upd (upd (gB σ 32) (0) (gB σ 12 (0))) (1) (gB σ 12 (1)))) := e38
    have hMo : h37 (m) = some (.inr (12, [.int (nI (gN σ 0)), .int (nI (gN σ 1)), .ref (m + 1), .int (nI (gN σ 3)), .int (nI (gN σ 4)), .int (gI σ 5), .int (nI (gN σ 6)), .ref (m + 2), .int (nI (gN σ 8)), .ref (m + 3), .ref (m + 4), .ref (m + 5), .ref (m + 6), .int (nI (gN σ 13)), .ref (m + 7), .ref (m + 8), .int (nI (gN σ 16)), .ref (m + 9), .long (s18), .int (s19), .int (s20), .ref (m + 10), .ref (m + 11), .int (s23), .int (s24), .int (1), .int (nI (gN σ 1)), .int (gI σ 5), .int (nI (gN σ 6)), .int (nI (gN σ 8)), .int (nI (gN σ 13)), .ref (m + 12), .ref (m + 13), .ref (m + 14), .ref (m + 15), .long (s35)])) := (o39 _ (by omega)).trans hMo
    have hR2 : h37 (m + 1) = some (cI D 9 (tnS σ)) := (o39 _ (by omega)).trans hR2
    have hR7 : h37 (m + 2) = some (cI D 5 (gB σ 7)) := (o39 _ (by omega)).trans hR7
    have hR9 : h37 (m + 3) = some (cI D 4 (kdS σ)) := (o39 _ (by omega)).trans hR9
    have hR10 : h37 (m + 4) = some (cI D 4 (gB σ 10)) := (o39 _ (by omega)).trans hR10
    have hR11 : h37 (m + 5) = some (cI D 4 (gB σ 11)) := (o39 _ (by omega)).trans hR11
    have hR12 : h37 (m + 6) = some (cI D 4 (gB σ 12)) := (o39 _ (by omega)).trans hR12
    have hR14 : h37 (m + 7) = some (cI D 12 (gB σ 14)) := (o39 _ (by omega)).trans hR14
    have hR15 : h37 (m + 8) = some (cI D 12 (gB σ 15)) := (o39 _ (by omega)).trans hR15
    have hR17 : h37 (m + 9) = some (cB D 16 (gB σ 17)) := (o39 _ (by omega)).trans hR17
    have hR21 : h37 (m + 10) = some (cI D 5 (f21)) := (o39 _ (by omega)).trans hR21
    have hR22 : h37 (m + 11) = some (cI D 5 (f22)) := (o39 _ (by omega)).trans hR22
    have hR31 : h37 (m + 12) = some (cI D 5 (upd (upd (upd (upd (upd (gB σ 31) (0) (gB σ 7 (0))) (1) (gB σ 7 (1))) (2) (gB σ 7 (2))) (3) (gB σ 7 (3))) (4) (gB σ 7 (4)))) := (o39 _ (by omega)).trans hR31
    have hR33 : h37 (m + 14) = some (cI D 12 (gB σ 33)) := (o39 _ (by omega)).trans hR33
    have hR34 : h37 (m + 15) = some (cI D 12 (gB σ 34)) := (o39 _ (by omega)).trans hR34
    have hO : ∀ q, (q < m ∨ m + 16 ≤ q) → h37 q = h q := fun q hq => (o39 q (by omega)).trans (hO q hq)
    refine g_iinc C (v := 2) 0 ([(1, .int (2)), (0, .ref (m))]) dX12_image_99 rfl (by decide) (by decide) rfl rfl ?_
    refine g_goto C dX12_image_102 (tgt := 82) (by decide) ?_
    refine g_iload_n C 0 dX12_image_82 rfl rfl rfl ?_
    refine g_iconst C (v := 4) dX12_image_83 (by decide) rfl ?_
    refine g_icmp_ge C dX12_image_84 (tgt := 105) (by decide) (pc' := 87) rfl (fun c84 => absurd c84 (by decide)) (fun _ => ?_)
    refine g_aload_n C 1 dX12_image_87 rfl rfl rfl ?_
    refine gf_12_47 C (hMo) (v := .ref (m + 13)) rfl dX12_image_88 rfl ?_
    refine g_iload_n C 0 dX12_image_91 rfl rfl rfl ?_
    refine g_aload_n C 1 dX12_image_92 rfl rfl rfl ?_
    refine gf_12_25 C (hMo) (v := .ref (m + 6)) rfl dX12_image_93 rfl ?_
    refine g_iload_n C 0 dX12_image_96 rfl rfl rfl ?_
    refine g_iald' C (hR12) (j := 2) rfl (by omega) (by decide) dX12_image_97 rfl ?_
    refine g_iast' C (hR32) (j := 2) rfl (by omega) (by decide) dX12_image_98 (pc' := 99) rfl (fun h40 e41 o42 => ?_)
    have hR32 : h40 (m + 13) = some (cI D 4 (upd (upd (upd (gB σ 32) (0) (gB σ 12 (0))) (1) (gB σ 12 (1))) (2) (gB σ 12 (2)))) := e41
    have hMo : h40 (m) = some (.inr (12, [.int (nI (gN σ 0)), .int (nI (gN σ 1)), .ref (m + 1), .int (nI (gN σ 3)), .int (nI (gN σ 4)), .int (gI σ 5), .int (nI (gN σ 6)), .ref (m + 2), .int (nI (gN σ 8)), .ref (m + 3), .ref (m + 4), .ref (m + 5), .ref (m + 6), .int (nI (gN σ 13)), .ref (m + 7), .ref (m + 8), .int (nI (gN σ 16)), .ref (m + 9), .long (s18), .int (s19), .int (s20), .ref (m + 10), .ref (m + 11), .int (s23), .int (s24), .int (1), .int (nI (gN σ 1)), .int (gI σ 5), .int (nI (gN σ 6)), .int (nI (gN σ 8)), .int (nI (gN σ 13)), .ref (m + 12), .ref (m + 13), .ref (m + 14), .ref (m + 15), .long (s35)])) := (o42 _ (by omega)).trans hMo
    have hR2 : h40 (m + 1) = some (cI D 9 (tnS σ)) := (o42 _ (by omega)).trans hR2
    have hR7 : h40 (m + 2) = some (cI D 5 (gB σ 7)) := (o42 _ (by omega)).trans hR7
    have hR9 : h40 (m + 3) = some (cI D 4 (kdS σ)) := (o42 _ (by omega)).trans hR9
    have hR10 : h40 (m + 4) = some (cI D 4 (gB σ 10)) := (o42 _ (by omega)).trans hR10
    have hR11 : h40 (m + 5) = some (cI D 4 (gB σ 11)) := (o42 _ (by omega)).trans hR11
    have hR12 : h40 (m + 6) = some (cI D 4 (gB σ 12)) := (o42 _ (by omega)).trans hR12
    have hR14 : h40 (m + 7) = some (cI D 12 (gB σ 14)) := (o42 _ (by omega)).trans hR14
    have hR15 : h40 (m + 8) = some (cI D 12 (gB σ 15)) := (o42 _ (by omega)).trans hR15
    have hR17 : h40 (m + 9) = some (cB D 16 (gB σ 17)) := (o42 _ (by omega)).trans hR17
    have hR21 : h40 (m + 10) = some (cI D 5 (f21)) := (o42 _ (by omega)).trans hR21
    have hR22 : h40 (m + 11) = some (cI D 5 (f22)) := (o42 _ (by omega)).trans hR22
    have hR31 : h40 (m + 12) = some (cI D 5 (upd (upd (upd (upd (upd (gB σ 31) (0) (gB σ 7 (0))) (1) (gB σ 7 (1))) (2) (gB σ 7 (2))) (3) (gB σ 7 (3))) (4) (gB σ 7 (4)))) := (o42 _ (by omega)).trans hR31
    have hR33 : h40 (m + 14) = some (cI D 12 (gB σ 33)) := (o42 _ (by omega)).trans hR33
    have hR34 : h40 (m + 15) = some (cI D 12 (gB σ 34)) := (o42 _ (by omega)).trans hR34
    have hO : ∀ q, (q < m ∨ m + 16 ≤ q) → h40 q = h q := fun q hq => (o42 q (by omega)).trans (hO q hq)
    refine g_iinc C (v := 3) 0 ([(1, .int (3)), (0, .ref (m))]) dX12_image_99 rfl (by decide) (by decide) rfl rfl ?_
    refine g_goto C dX12_image_102 (tgt := 82) (by decide) ?_
    refine g_iload_n C 0 dX12_image_82 rfl rfl rfl ?_
    refine g_iconst C (v := 4) dX12_image_83 (by decide) rfl ?_
    refine g_icmp_ge C dX12_image_84 (tgt := 105) (by decide) (pc' := 87) rfl (fun c84 => absurd c84 (by decide)) (fun _ => ?_)
    refine g_aload_n C 1 dX12_image_87 rfl rfl rfl ?_
    refine gf_12_47 C (hMo) (v := .ref (m + 13)) rfl dX12_image_88 rfl ?_
    refine g_iload_n C 0 dX12_image_91 rfl rfl rfl ?_
    refine g_aload_n C 1 dX12_image_92 rfl rfl rfl ?_
    refine gf_12_25 C (hMo) (v := .ref (m + 6)) rfl dX12_image_93 rfl ?_
    refine g_iload_n C 0 dX12_image_96 rfl rfl rfl ?_
    refine g_iald' C (hR12) (j := 3) rfl (by omega) (by decide) dX12_image_97 rfl ?_
    refine g_iast' C (hR32) (j := 3) rfl (by omega) (by decide) dX12_image_98 (pc' := 99) rfl (fun h43 e44 o45 => ?_)
    have hR32 : h43 (m + 13) = some (cI D 4 (upd (upd (upd (upd (gB σ 32) (0) (gB σ 12 (0))) (1) (gB σ 12 (1))) (2) (gB σ 12 (2))) (3) (gB σ 12 (3)))) := e44
    have hMo : h43 (m) = some (.inr (12, [.int (nI (gN σ 0)), .int (nI (gN σ 1)), .ref (m + 1), .int (nI (gN σ 3)), .int (nI (gN σ 4)), .int (gI σ 5), .int (nI (gN σ 6)), .ref (m + 2), .int (nI (gN σ 8)), .ref (m + 3), .ref (m + 4), .ref (m + 5), .ref (m + 6), .int (nI (gN σ 13)), .ref (m + 7), .ref (m + 8), .int (nI (gN σ 16)), .ref (m + 9), .long (s18), .int (s19), .int (s20), .ref (m + 10), .ref (m + 11), .int (s23), .int (s24), .int (1), .int (nI (gN σ 1)), .int (gI σ 5), .int (nI (gN σ 6)), .int (nI (gN σ 8)), .int (nI (gN σ 13)), .ref (m + 12), .ref (m + 13), .ref (m + 14), .ref (m + 15), .long (s35)])) := (o45 _ (by omega)).trans hMo
    have hR2 : h43 (m + 1) = some (cI D 9 (tnS σ)) := (o45 _ (by omega)).trans hR2
    have hR7 : h43 (m + 2) = some (cI D 5 (gB σ 7)) := (o45 _ (by omega)).trans hR7
    have hR9 : h43 (m + 3) = some (cI D 4 (kdS σ)) := (o45 _ (by omega)).trans hR9
    have hR10 : h43 (m + 4) = some (cI D 4 (gB σ 10)) := (o45 _ (by omega)).trans hR10
    have hR11 : h43 (m + 5) = some (cI D 4 (gB σ 11)) := (o45 _ (by omega)).trans hR11
    have hR12 : h43 (m + 6) = some (cI D 4 (gB σ 12)) := (o45 _ (by omega)).trans hR12
    have hR14 : h43 (m + 7) = some (cI D 12 (gB σ 14)) := (o45 _ (by omega)).trans hR14
    have hR15 : h43 (m + 8) = some (cI D 12 (gB σ 15)) := (o45 _ (by omega)).trans hR15
    have hR17 : h43 (m + 9) = some (cB D 16 (gB σ 17)) := (o45 _ (by omega)).trans hR17
    have hR21 : h43 (m + 10) = some (cI D 5 (f21)) := (o45 _ (by omega)).trans hR21
    have hR22 : h43 (m + 11) = some (cI D 5 (f22)) := (o45 _ (by omega)).trans hR22
    have hR31 : h43 (m + 12) = some (cI D 5 (upd (upd (upd (upd (upd (gB σ 31) (0) (gB σ 7 (0))) (1) (gB σ 7 (1))) (2) (gB σ 7 (2))) (3) (gB σ 7 (3))) (4) (gB σ 7 (4)))) := (o45 _ (by omega)).trans hR31
    have hR33 : h43 (m + 14) = some (cI D 12 (gB σ 33)) := (o45 _ (by omega)).trans hR33
    have hR34 : h43 (m + 15) = some (cI D 12 (gB σ 34)) := (o45 _ (by omega)).trans hR34
    have hO : ∀ q, (q < m ∨ m + 16 ≤ q) → h43 q = h q := fun q hq => (o45 q (by omega)).trans (hO q hq)
    refine g_iinc C (v := 4) 0 ([(1, .int (4)), (0, .ref (m))]) dX12_image_99 rfl (by decide) (by decide) rfl rfl ?_
    refine g_goto C dX12_image_102 (tgt := 82) (by decide) ?_
    refine g_iload_n C 0 dX12_image_82 rfl rfl rfl ?_
    refine g_iconst C (v := 4) dX12_image_83 (by decide) rfl ?_
    refine g_icmp_ge C dX12_image_84 (tgt := 105) (by decide) (pc' := 87) rfl (fun _ => ?_) (fun c84 => absurd (by decide) c84)
    refine g_iconst C (v := 0) dX12_image_105 (by decide) rfl ?_
    refine g_istore_n C ([(1, .int (0)), (0, .ref (m))]) dX12_image_106 rfl (by decide) rfl rfl ?_
    refine g_iload_n C 0 dX12_image_107 rfl rfl rfl ?_
    refine g_bipush C (v := 12) dX12_image_108 (by decide) rfl ?_
    refine g_icmp_ge C dX12_image_110 (tgt := 143) (by decide) (pc' := 113) rfl (fun c110 => absurd c110 (by decide)) (fun _ => ?_)
    refine g_aload_n C 1 dX12_image_113 rfl rfl rfl ?_
    refine gf_12_50 C (hMo) (v := .ref (m + 14)) rfl dX12_image_114 rfl ?_
    refine g_iload_n C 0 dX12_image_117 rfl rfl rfl ?_
    refine g_aload_n C 1 dX12_image_118 rfl rfl rfl ?_
    refine gf_12_28 C (hMo) (v := .ref (m + 7)) rfl dX12_image_119 rfl ?_
    refine g_iload_n C 0 dX12_image_122 rfl rfl rfl ?_
    refine g_iald' C (hR14) (j := 0) rfl (by omega) (by decide) dX12_image_123 rfl ?_
    refine g_iast' C (hR33) (j := 0) rfl (by omega) (by decide) dX12_image_124 (pc' := 125) rfl (fun h46 e47 o48 => ?_)
    have hR33 : h46 (m + 14) = some (cI D 12 (upd (gB σ 33) (0) (gB σ 14 (0)))) := e47
    have hMo : h46 (m) = some (.inr (12, [.int (nI (gN σ 0)), .int (nI (gN σ 1)), .ref (m + 1), .int (nI (gN σ 3)), .int (nI (gN σ 4)), .int (gI σ 5), .int (nI (gN σ 6)), .ref (m + 2), .int (nI (gN σ 8)), .ref (m + 3), .ref (m + 4), .ref (m + 5), .ref (m + 6), .int (nI (gN σ 13)), .ref (m + 7), .ref (m + 8), .int (nI (gN σ 16)), .ref (m + 9), .long (s18), .int (s19), .int (s20), .ref (m + 10), .ref (m + 11), .int (s23), .int (s24), .int (1), .int (nI (gN σ 1)), .int (gI σ 5), .int (nI (gN σ 6)), .int (nI (gN σ 8)), .int (nI (gN σ 13)), .ref (m + 12), .ref (m + 13), .ref (m + 14), .ref (m + 15), .long (s35)])) := (o48 _ (by omega)).trans hMo
    have hR2 : h46 (m + 1) = some (cI D 9 (tnS σ)) := (o48 _ (by omega)).trans hR2
    have hR7 : h46 (m + 2) = some (cI D 5 (gB σ 7)) := (o48 _ (by omega)).trans hR7
    have hR9 : h46 (m + 3) = some (cI D 4 (kdS σ)) := (o48 _ (by omega)).trans hR9
    have hR10 : h46 (m + 4) = some (cI D 4 (gB σ 10)) := (o48 _ (by omega)).trans hR10
    have hR11 : h46 (m + 5) = some (cI D 4 (gB σ 11)) := (o48 _ (by omega)).trans hR11
    have hR12 : h46 (m + 6) = some (cI D 4 (gB σ 12)) := (o48 _ (by omega)).trans hR12
    have hR14 : h46 (m + 7) = some (cI D 12 (gB σ 14)) := (o48 _ (by omega)).trans hR14
    have hR15 : h46 (m + 8) = some (cI D 12 (gB σ 15)) := (o48 _ (by omega)).trans hR15
    have hR17 : h46 (m + 9) = some (cB D 16 (gB σ 17)) := (o48 _ (by omega)).trans hR17
    have hR21 : h46 (m + 10) = some (cI D 5 (f21)) := (o48 _ (by omega)).trans hR21
    have hR22 : h46 (m + 11) = some (cI D 5 (f22)) := (o48 _ (by omega)).trans hR22
    have hR31 : h46 (m + 12) = some (cI D 5 (upd (upd (upd (upd (upd (gB σ 31) (0) (gB σ 7 (0))) (1) (gB σ 7 (1))) (2) (gB σ 7 (2))) (3) (gB σ 7 (3))) (4) (gB σ 7 (4)))) := (o48 _ (by omega)).trans hR31
    have hR32 : h46 (m + 13) = some (cI D 4 (upd (upd (upd (upd (gB σ 32) (0) (gB σ 12 (0))) (1) (gB σ 12 (1))) (2) (gB σ 12 (2))) (3) (gB σ 12 (3)))) := (o48 _ (by omega)).trans hR32
    have hR34 : h46 (m + 15) = some (cI D 12 (gB σ 34)) := (o48 _ (by omega)).trans hR34
    have hO : ∀ q, (q < m ∨ m + 16 ≤ q) → h46 q = h q := fun q hq => (o48 q (by omega)).trans (hO q hq)
    refine g_aload_n C 1 dX12_image_125 rfl rfl rfl ?_
    refine gf_12_53 C (hMo) (v := .ref (m + 15)) rfl dX12_image_126 rfl ?_
    refine g_iload_n C 0 dX12_image_129 rfl rfl rfl ?_
    refine g_aload_n C 1 dX12_image_130 rfl rfl rfl ?_
    refine gf_12_31 C (hMo) (v := .ref (m + 8)) rfl dX12_image_131 rfl ?_
    refine g_iload_n C 0 dX12_image_134 rfl rfl rfl ?_
    refine g_iald' C (hR15) (j := 0) rfl (by omega) (by decide) dX12_image_135 rfl ?_
    refine g_iast' C (hR34) (j := 0) rfl (by omega) (by decide) dX12_image_136 (pc' := 137) rfl (fun h49 e50 o51 => ?_)
    have hR34 : h49 (m + 15) = some (cI D 12 (upd (gB σ 34) (0) (gB σ 15 (0)))) := e50
    have hMo : h49 (m) = some (.inr (12, [.int (nI (gN σ 0)), .int (nI (gN σ 1)), .ref (m + 1), .int (nI (gN σ 3)), .int (nI (gN σ 4)), .int (gI σ 5), .int (nI (gN σ 6)), .ref (m + 2), .int (nI (gN σ 8)), .ref (m + 3), .ref (m + 4), .ref (m + 5), .ref (m + 6), .int (nI (gN σ 13)), .ref (m + 7), .ref (m + 8), .int (nI (gN σ 16)), .ref (m + 9), .long (s18), .int (s19), .int (s20), .ref (m + 10), .ref (m + 11), .int (s23), .int (s24), .int (1), .int (nI (gN σ 1)), .int (gI σ 5), .int (nI (gN σ 6)), .int (nI (gN σ 8)), .int (nI (gN σ 13)), .ref (m + 12), .ref (m + 13), .ref (m + 14), .ref (m + 15), .long (s35)])) := (o51 _ (by omega)).trans hMo
    have hR2 : h49 (m + 1) = some (cI D 9 (tnS σ)) := (o51 _ (by omega)).trans hR2
    have hR7 : h49 (m + 2) = some (cI D 5 (gB σ 7)) := (o51 _ (by omega)).trans hR7
    have hR9 : h49 (m + 3) = some (cI D 4 (kdS σ)) := (o51 _ (by omega)).trans hR9
    have hR10 : h49 (m + 4) = some (cI D 4 (gB σ 10)) := (o51 _ (by omega)).trans hR10
    have hR11 : h49 (m + 5) = some (cI D 4 (gB σ 11)) := (o51 _ (by omega)).trans hR11
    have hR12 : h49 (m + 6) = some (cI D 4 (gB σ 12)) := (o51 _ (by omega)).trans hR12
    have hR14 : h49 (m + 7) = some (cI D 12 (gB σ 14)) := (o51 _ (by omega)).trans hR14
    have hR15 : h49 (m + 8) = some (cI D 12 (gB σ 15)) := (o51 _ (by omega)).trans hR15
    have hR17 : h49 (m + 9) = some (cB D 16 (gB σ 17)) := (o51 _ (by omega)).trans hR17
    have hR21 : h49 (m + 10) = some (cI D 5 (f21)) := (o51 _ (by omega)).trans hR21
    have hR22 : h49 (m + 11) = some (cI D 5 (f22)) := (o51 _ (by omega)).trans hR22
    have hR31 : h49 (m + 12) = some (cI D 5 (upd (upd (upd (upd (upd (gB σ 31) (0) (gB σ 7 (0))) (1) (gB σ 7 (1))) (2) (gB σ 7 (2))) (3) (gB σ 7 (3))) (4) (gB σ 7 (4)))) := (o51 _ (by omega)).trans hR31
    have hR32 : h49 (m + 13) = some (cI D 4 (upd (upd (upd (upd (gB σ 32) (0) (gB σ 12 (0))) (1) (gB σ 12 (1))) (2) (gB σ 12 (2))) (3) (gB σ 12 (3)))) := (o51 _ (by omega)).trans hR32
    have hR33 : h49 (m + 14) = some (cI D 12 (upd (gB σ 33) (0) (gB σ 14 (0)))) := (o51 _ (by omega)).trans hR33
    have hO : ∀ q, (q < m ∨ m + 16 ≤ q) → h49 q = h q := fun q hq => (o51 q (by omega)).trans (hO q hq)
    refine g_iinc C (v := 1) 0 ([(1, .int (1)), (0, .ref (m))]) dX12_image_137 rfl (by decide) (by decide) rfl rfl ?_
    refine g_goto C dX12_image_140 (tgt := 107) (by decide) ?_
    refine g_iload_n C 0 dX12_image_107 rfl rfl rfl ?_
    refine g_bipush C (v := 12) dX12_image_108 (by decide) rfl ?_
    refine g_icmp_ge C dX12_image_110 (tgt := 143) (by decide) (pc' := 113) rfl (fun c110 => absurd c110 (by decide)) (fun _ => ?_)
    refine g_aload_n C 1 dX12_image_113 rfl rfl rfl ?_
    refine gf_12_50 C (hMo) (v := .ref (m + 14)) rfl dX12_image_114 rfl ?_
    refine g_iload_n C 0 dX12_image_117 rfl rfl rfl ?_
    refine g_aload_n C 1 dX12_image_118 rfl rfl rfl ?_
    refine gf_12_28 C (hMo) (v := .ref (m + 7)) rfl dX12_image_119 rfl ?_
    refine g_iload_n C 0 dX12_image_122 rfl rfl rfl ?_
    refine g_iald' C (hR14) (j := 1) rfl (by omega) (by decide) dX12_image_123 rfl ?_
    refine g_iast' C (hR33) (j := 1) rfl (by omega) (by decide) dX12_image_124 (pc' := 125) rfl (fun h52 e53 o54 => ?_)
    have hR33 : h52 (m + 14) = some (cI D 12 (upd (upd (gB σ 33) (0) (gB σ 14 (0))) (1) (gB σ 14 (1)))) := e53
    have hMo : h52 (m) = some (.inr (12, [.int (nI (gN σ 0)), .int (nI (gN σ 1)), .ref (m + 1), .int (nI (gN σ 3)), .int (nI (gN σ 4)), .int (gI σ 5), .int (nI (gN σ 6)), .ref (m + 2), .int (nI (gN σ 8)), .ref (m + 3), .ref (m + 4), .ref (m + 5), .ref (m + 6), .int (nI (gN σ 13)), .ref (m + 7), .ref (m + 8), .int (nI (gN σ 16)), .ref (m + 9), .long (s18), .int (s19), .int (s20), .ref (m + 10), .ref (m + 11), .int (s23), .int (s24), .int (1), .int (nI (gN σ 1)), .int (gI σ 5), .int (nI (gN σ 6)), .int (nI (gN σ 8)), .int (nI (gN σ 13)), .ref (m + 12), .ref (m + 13), .ref (m + 14), .ref (m + 15), .long (s35)])) := (o54 _ (by omega)).trans hMo
    have hR2 : h52 (m + 1) = some (cI D 9 (tnS σ)) := (o54 _ (by omega)).trans hR2
    have hR7 : h52 (m + 2) = some (cI D 5 (gB σ 7)) := (o54 _ (by omega)).trans hR7
    have hR9 : h52 (m + 3) = some (cI D 4 (kdS σ)) := (o54 _ (by omega)).trans hR9
    have hR10 : h52 (m + 4) = some (cI D 4 (gB σ 10)) := (o54 _ (by omega)).trans hR10
    have hR11 : h52 (m + 5) = some (cI D 4 (gB σ 11)) := (o54 _ (by omega)).trans hR11
    have hR12 : h52 (m + 6) = some (cI D 4 (gB σ 12)) := (o54 _ (by omega)).trans hR12
    have hR14 : h52 (m + 7) = some (cI D 12 (gB σ 14)) := (o54 _ (by omega)).trans hR14
    have hR15 : h52 (m + 8) = some (cI D 12 (gB σ 15)) := (o54 _ (by omega)).trans hR15
    have hR17 : h52 (m + 9) = some (cB D 16 (gB σ 17)) := (o54 _ (by omega)).trans hR17
    have hR21 : h52 (m + 10) = some (cI D 5 (f21)) := (o54 _ (by omega)).trans hR21
    have hR22 : h52 (m + 11) = some (cI D 5 (f22)) := (o54 _ (by omega)).trans hR22
    have hR31 : h52 (m + 12) = some (cI D 5 (upd (upd (upd (upd (upd (gB σ 31) (0) (gB σ 7 (0))) (1) (gB σ 7 (1))) (2) (gB σ 7 (2))) (3) (gB σ 7 (3))) (4) (gB σ 7 (4)))) := (o54 _ (by omega)).trans hR31
    have hR32 : h52 (m + 13) = some (cI D 4 (upd (upd (upd (upd (gB σ 32) (0) (gB σ 12 (0))) (1) (gB σ 12 (1))) (2) (gB σ 12 (2))) (3) (gB σ 12 (3)))) := (o54 _ (by omega)).trans hR32
    have hR34 : h52 (m + 15) = some (cI D 12 (upd (gB σ 34) (0) (gB σ 15 (0)))) := (o54 _ (by omega)).trans hR34
    have hO : ∀ q, (q < m ∨ m + 16 ≤ q) → h52 q = h q := fun q hq => (o54 q (by omega)).trans (hO q hq)
    refine g_aload_n C 1 dX12_image_125 rfl rfl rfl ?_
    refine gf_12_53 C (hMo) (v := .ref (m + 15)) rfl dX12_image_126 rfl ?_
    refine g_iload_n C 0 dX12_image_129 rfl rfl rfl ?_
    refine g_aload_n C 1 dX12_image_130 rfl rfl rfl ?_
    refine gf_12_31 C (hMo) (v := .ref (m + 8)) rfl dX12_image_131 rfl ?_
    refine g_iload_n C 0 dX12_image_134 rfl rfl rfl ?_
    refine g_iald' C (hR15) (j := 1) rfl (by omega) (by decide) dX12_image_135 rfl ?_
    refine g_iast' C (hR34) (j := 1) rfl (by omega) (by decide) dX12_image_136 (pc' := 137) rfl (fun h55 e56 o57 => ?_)
    have hR34 : h55 (m + 15) = some (cI D 12 (upd (upd (gB σ 34) (0) (gB σ 15 (0))) (1) (gB σ 15 (1)))) := e56
    have hMo : h55 (m) = some (.inr (12, [.int (nI (gN σ 0)), .int (nI (gN σ 1)), .ref (m + 1), .int (nI (gN σ 3)), .int (nI (gN σ 4)), .int (gI σ 5), .int (nI (gN σ 6)), .ref (m + 2), .int (nI (gN σ 8)), .ref (m + 3), .ref (m + 4), .ref (m + 5), .ref (m + 6), .int (nI (gN σ 13)), .ref (m + 7), .ref (m + 8), .int (nI (gN σ 16)), .ref (m + 9), .long (s18), .int (s19), .int (s20), .ref (m + 10), .ref (m + 11), .int (s23), .int (s24), .int (1), .int (nI (gN σ 1)), .int (gI σ 5), .int (nI (gN σ 6)), .int (nI (gN σ 8)), .int (nI (gN σ 13)), .ref (m + 12), .ref (m + 13), .ref (m + 14), .ref (m + 15), .long (s35)])) := (o57 _ (by omega)).trans hMo
    have hR2 : h55 (m + 1) = some (cI D 9 (tnS σ)) := (o57 _ (by omega)).trans hR2
    have hR7 : h55 (m + 2) = some (cI D 5 (gB σ 7)) := (o57 _ (by omega)).trans hR7
    have hR9 : h55 (m + 3) = some (cI D 4 (kdS σ)) := (o57 _ (by omega)).trans hR9
    have hR10 : h55 (m + 4) = some (cI D 4 (gB σ 10)) := (o57 _ (by omega)).trans hR10
    have hR11 : h55 (m + 5) = some (cI D 4 (gB σ 11)) := (o57 _ (by omega)).trans hR11
    have hR12 : h55 (m + 6) = some (cI D 4 (gB σ 12)) := (o57 _ (by omega)).trans hR12
    have hR14 : h55 (m + 7) = some (cI D 12 (gB σ 14)) := (o57 _ (by omega)).trans hR14
    have hR15 : h55 (m + 8) = some (cI D 12 (gB σ 15)) := (o57 _ (by omega)).trans hR15
    have hR17 : h55 (m + 9) = some (cB D 16 (gB σ 17)) := (o57 _ (by omega)).trans hR17
    have hR21 : h55 (m + 10) = some (cI D 5 (f21)) := (o57 _ (by omega)).trans hR21
    have hR22 : h55 (m + 11) = some (cI D 5 (f22)) := (o57 _ (by omega)).trans hR22
    have hR31 : h55 (m + 12) = some (cI D 5 (upd (upd (upd (upd (upd (gB σ 31) (0) (gB σ 7 (0))) (1) (gB σ 7 (1))) (2) (gB σ 7 (2))) (3) (gB σ 7 (3))) (4) (gB σ 7 (4)))) := (o57 _ (by omega)).trans hR31
    have hR32 : h55 (m + 13) = some (cI D 4 (upd (upd (upd (upd (gB σ 32) (0) (gB σ 12 (0))) (1) (gB σ 12 (1))) (2) (gB σ 12 (2))) (3) (gB σ 12 (3)))) := (o57 _ (by omega)).trans hR32
    have hR33 : h55 (m + 14) = some (cI D 12 (upd (upd (gB σ 33) (0) (gB σ 14 (0))) (1) (gB σ 14 (1)))) := (o57 _ (by omega)).trans hR33
    have hO : ∀ q, (q < m ∨ m + 16 ≤ q) → h55 q = h q := fun q hq => (o57 q (by omega)).trans (hO q hq)
    refine g_iinc C (v := 2) 0 ([(1, .int (2)), (0, .ref (m))]) dX12_image_137 rfl (by decide) (by decide) rfl rfl ?_
    refine g_goto C dX12_image_140 (tgt := 107) (by decide) ?_
    refine g_iload_n C 0 dX12_image_107 rfl rfl rfl ?_
    refine g_bipush C (v := 12) dX12_image_108 (by decide) rfl ?_
    refine g_icmp_ge C dX12_image_110 (tgt := 143) (by decide) (pc' := 113) rfl (fun c110 => absurd c110 (by decide)) (fun _ => ?_)
    refine g_aload_n C 1 dX12_image_113 rfl rfl rfl ?_
    refine gf_12_50 C (hMo) (v := .ref (m + 14)) rfl dX12_image_114 rfl ?_
    refine g_iload_n C 0 dX12_image_117 rfl rfl rfl ?_
    refine g_aload_n C 1 dX12_image_118 rfl rfl rfl ?_
    refine gf_12_28 C (hMo) (v := .ref (m + 7)) rfl dX12_image_119 rfl ?_
    refine g_iload_n C 0 dX12_image_122 rfl rfl rfl ?_
    refine g_iald' C (hR14) (j := 2) rfl (by omega) (by decide) dX12_image_123 rfl ?_
    refine g_iast' C (hR33) (j := 2) rfl (by omega) (by decide) dX12_image_124 (pc' := 125) rfl (fun h58 e59 o60 => ?_)
    have hR33 : h58 (m + 14) = some (cI D 12 (upd (upd (upd (gB σ 33) (0) (gB σ 14 (0))) (1) (gB σ 14 (1))) (2) (gB σ 14 (2)))) := e59
    have hMo : h58 (m) = some (.inr (12, [.int (nI (gN σ 0)), .int (nI (gN σ 1)), .ref (m + 1), .int (nI (gN σ 3)), .int (nI (gN σ 4)), .int (gI σ 5), .int (nI (gN σ 6)), .ref (m + 2), .int (nI (gN σ 8)), .ref (m + 3), .ref (m + 4), .ref (m + 5), .ref (m + 6), .int (nI (gN σ 13)), .ref (m + 7), .ref (m + 8), .int (nI (gN σ 16)), .ref (m + 9), .long (s18), .int (s19), .int (s20), .ref (m + 10), .ref (m + 11), .int (s23), .int (s24), .int (1), .int (nI (gN σ 1)), .int (gI σ 5), .int (nI (gN σ 6)), .int (nI (gN σ 8)), .int (nI (gN σ 13)), .ref (m + 12), .ref (m + 13), .ref (m + 14), .ref (m + 15), .long (s35)])) := (o60 _ (by omega)).trans hMo
    have hR2 : h58 (m + 1) = some (cI D 9 (tnS σ)) := (o60 _ (by omega)).trans hR2
    have hR7 : h58 (m + 2) = some (cI D 5 (gB σ 7)) := (o60 _ (by omega)).trans hR7
    have hR9 : h58 (m + 3) = some (cI D 4 (kdS σ)) := (o60 _ (by omega)).trans hR9
    have hR10 : h58 (m + 4) = some (cI D 4 (gB σ 10)) := (o60 _ (by omega)).trans hR10
    have hR11 : h58 (m + 5) = some (cI D 4 (gB σ 11)) := (o60 _ (by omega)).trans hR11
    have hR12 : h58 (m + 6) = some (cI D 4 (gB σ 12)) := (o60 _ (by omega)).trans hR12
    have hR14 : h58 (m + 7) = some (cI D 12 (gB σ 14)) := (o60 _ (by omega)).trans hR14
    have hR15 : h58 (m + 8) = some (cI D 12 (gB σ 15)) := (o60 _ (by omega)).trans hR15
    have hR17 : h58 (m + 9) = some (cB D 16 (gB σ 17)) := (o60 _ (by omega)).trans hR17
    have hR21 : h58 (m + 10) = some (cI D 5 (f21)) := (o60 _ (by omega)).trans hR21
    have hR22 : h58 (m + 11) = some (cI D 5 (f22)) := (o60 _ (by omega)).trans hR22
    have hR31 : h58 (m + 12) = some (cI D 5 (upd (upd (upd (upd (upd (gB σ 31) (0) (gB σ 7 (0))) (1) (gB σ 7 (1))) (2) (gB σ 7 (2))) (3) (gB σ 7 (3))) (4) (gB σ 7 (4)))) := (o60 _ (by omega)).trans hR31
    have hR32 : h58 (m + 13) = some (cI D 4 (upd (upd (upd (upd (gB σ 32) (0) (gB σ 12 (0))) (1) (gB σ 12 (1))) (2) (gB σ 12 (2))) (3) (gB σ 12 (3)))) := (o60 _ (by omega)).trans hR32
    have hR34 : h58 (m + 15) = some (cI D 12 (upd (upd (gB σ 34) (0) (gB σ 15 (0))) (1) (gB σ 15 (1)))) := (o60 _ (by omega)).trans hR34
    have hO : ∀ q, (q < m ∨ m + 16 ≤ q) → h58 q = h q := fun q hq => (o60 q (by omega)).trans (hO q hq)
    refine g_aload_n C 1 dX12_image_125 rfl rfl rfl ?_
    refine gf_12_53 C (hMo) (v := .ref (m + 15)) rfl dX12_image_126 rfl ?_
    refine g_iload_n C 0 dX12_image_129 rfl rfl rfl ?_
    refine g_aload_n C 1 dX12_image_130 rfl rfl rfl ?_
    refine gf_12_31 C (hMo) (v := .ref (m + 8)) rfl dX12_image_131 rfl ?_
    refine g_iload_n C 0 dX12_image_134 rfl rfl rfl ?_
    refine g_iald' C (hR15) (j := 2) rfl (by omega) (by decide) dX12_image_135 rfl ?_
    refine g_iast' C (hR34) (j := 2) rfl (by omega) (by decide) dX12_image_136 (pc' := 137) rfl (fun h61 e62 o63 => ?_)
    have hR34 : h61 (m + 15) = some (cI D 12 (upd (upd (upd (gB σ 34) (0) (gB σ 15 (0))) (1) (gB σ 15 (1))) (2) (gB σ 15 (2)))) := e62
    have hMo : h61 (m) = some (.inr (12, [.int (nI (gN σ 0)), .int (nI (gN σ 1)), .ref (m + 1), .int (nI (gN σ 3)), .int (nI (gN σ 4)), .int (gI σ 5), .int (nI (gN σ 6)), .ref (m + 2), .int (nI (gN σ 8)), .ref (m + 3), .ref (m + 4), .ref (m + 5), .ref (m + 6), .int (nI (gN σ 13)), .ref (m + 7), .ref (m + 8), .int (nI (gN σ 16)), .ref (m + 9), .long (s18), .int (s19), .int (s20), .ref (m + 10), .ref (m + 11), .int (s23), .int (s24), .int (1), .int (nI (gN σ 1)), .int (gI σ 5), .int (nI (gN σ 6)), .int (nI (gN σ 8)), .int (nI (gN σ 13)), .ref (m + 12), .ref (m + 13), .ref (m + 14), .ref (m + 15), .long (s35)])) := (o63 _ (by omega)).trans hMo
    have hR2 : h61 (m + 1) = some (cI D 9 (tnS σ)) := (o63 _ (by omega)).trans hR2
    have hR7 : h61 (m + 2) = some (cI D 5 (gB σ 7)) := (o63 _ (by omega)).trans hR7
    have hR9 : h61 (m + 3) = some (cI D 4 (kdS σ)) := (o63 _ (by omega)).trans hR9
    have hR10 : h61 (m + 4) = some (cI D 4 (gB σ 10)) := (o63 _ (by omega)).trans hR10
    have hR11 : h61 (m + 5) = some (cI D 4 (gB σ 11)) := (o63 _ (by omega)).trans hR11
    have hR12 : h61 (m + 6) = some (cI D 4 (gB σ 12)) := (o63 _ (by omega)).trans hR12
    have hR14 : h61 (m + 7) = some (cI D 12 (gB σ 14)) := (o63 _ (by omega)).trans hR14
    have hR15 : h61 (m + 8) = some (cI D 12 (gB σ 15)) := (o63 _ (by omega)).trans hR15
    have hR17 : h61 (m + 9) = some (cB D 16 (gB σ 17)) := (o63 _ (by omega)).trans hR17
    have hR21 : h61 (m + 10) = some (cI D 5 (f21)) := (o63 _ (by omega)).trans hR21
    have hR22 : h61 (m + 11) = some (cI D 5 (f22)) := (o63 _ (by omega)).trans hR22
    have hR31 : h61 (m + 12) = some (cI D 5 (upd (upd (upd (upd (upd (gB σ 31) (0) (gB σ 7 (0))) (1) (gB σ 7 (1))) (2) (gB σ 7 (2))) (3) (gB σ 7 (3))) (4) (gB σ 7 (4)))) := (o63 _ (by omega)).trans hR31
    have hR32 : h61 (m + 13) = some (cI D 4 (upd (upd (upd (upd (gB σ 32) (0) (gB σ 12 (0))) (1) (gB σ 12 (1))) (2) (gB σ 12 (2))) (3) (gB σ 12 (3)))) := (o63 _ (by omega)).trans hR32
    have hR33 : h61 (m + 14) = some (cI D 12 (upd (upd (upd (gB σ 33) (0) (gB σ 14 (0))) (1) (gB σ 14 (1))) (2) (gB σ 14 (2)))) := (o63 _ (by omega)).trans hR33
    have hO : ∀ q, (q < m ∨ m + 16 ≤ q) → h61 q = h q := fun q hq => (o63 q (by omega)).trans (hO q hq)
    refine g_iinc C (v := 3) 0 ([(1, .int (3)), (0, .ref (m))]) dX12_image_137 rfl (by decide) (by decide) rfl rfl ?_
    refine g_goto C dX12_image_140 (tgt := 107) (by decide) ?_
    refine g_iload_n C 0 dX12_image_107 rfl rfl rfl ?_
    refine g_bipush C (v := 12) dX12_image_108 (by decide) rfl ?_
    refine g_icmp_ge C dX12_image_110 (tgt := 143) (by decide) (pc' := 113) rfl (fun c110 => absurd c110 (by decide)) (fun _ => ?_)
    refine g_aload_n C 1 dX12_image_113 rfl rfl rfl ?_
    refine gf_12_50 C (hMo) (v := .ref (m + 14)) rfl dX12_image_114 rfl ?_
    refine g_iload_n C 0 dX12_image_117 rfl rfl rfl ?_
    refine g_aload_n C 1 dX12_image_118 rfl rfl rfl ?_
    refine gf_12_28 C (hMo) (v := .ref (m + 7)) rfl dX12_image_119 rfl ?_
    refine g_iload_n C 0 dX12_image_122 rfl rfl rfl ?_
    refine g_iald' C (hR14) (j := 3) rfl (by omega) (by decide) dX12_image_123 rfl ?_
    refine g_iast' C (hR33) (j := 3) rfl (by omega) (by decide) dX12_image_124 (pc' := 125) rfl (fun h64 e65 o66 => ?_)
    have hR33 : h64 (m + 14) = some (cI D 12 (upd (upd (upd (upd (gB σ 33) (0) (gB σ 14 (0))) (1) (gB σ 14 (1))) (2) (gB σ 14 (2))) (3) (gB σ 14 (3)))) := e65
    have hMo : h64 (m) = some (.inr (12, [.int (nI (gN σ 0)), .int (nI (gN σ 1)), .ref (m + 1), .int (nI (gN σ 3)), .int (nI (gN σ 4)), .int (gI σ 5), .int (nI (gN σ 6)), .ref (m + 2), .int (nI (gN σ 8)), .ref (m + 3), .ref (m + 4), .ref (m + 5), .ref (m + 6), .int (nI (gN σ 13)), .ref (m + 7), .ref (m + 8), .int (nI (gN σ 16)), .ref (m + 9), .long (s18), .int (s19), .int (s20), .ref (m + 10), .ref (m + 11), .int (s23), .int (s24), .int (1), .int (nI (gN σ 1)), .int (gI σ 5), .int (nI (gN σ 6)), .int (nI (gN σ 8)), .int (nI (gN σ 13)), .ref (m + 12), .ref (m + 13), .ref (m + 14), .ref (m + 15), .long (s35)])) := (o66 _ (by omega)).trans hMo
    have hR2 : h64 (m + 1) = some (cI D 9 (tnS σ)) := (o66 _ (by omega)).trans hR2
    have hR7 : h64 (m + 2) = some (cI D 5 (gB σ 7)) := (o66 _ (by omega)).trans hR7
    have hR9 : h64 (m + 3) = some (cI D 4 (kdS σ)) := (o66 _ (by omega)).trans hR9
    have hR10 : h64 (m + 4) = some (cI D 4 (gB σ 10)) := (o66 _ (by omega)).trans hR10
    have hR11 : h64 (m + 5) = some (cI D 4 (gB σ 11)) := (o66 _ (by omega)).trans hR11
    have hR12 : h64 (m + 6) = some (cI D 4 (gB σ 12)) := (o66 _ (by omega)).trans hR12
    have hR14 : h64 (m + 7) = some (cI D 12 (gB σ 14)) := (o66 _ (by omega)).trans hR14
    have hR15 : h64 (m + 8) = some (cI D 12 (gB σ 15)) := (o66 _ (by omega)).trans hR15
    have hR17 : h64 (m + 9) = some (cB D 16 (gB σ 17)) := (o66 _ (by omega)).trans hR17
    have hR21 : h64 (m + 10) = some (cI D 5 (f21)) := (o66 _ (by omega)).trans hR21
    have hR22 : h64 (m + 11) = some (cI D 5 (f22)) := (o66 _ (by omega)).trans hR22
    have hR31 : h64 (m + 12) = some (cI D 5 (upd (upd (upd (upd (upd (gB σ 31) (0) (gB σ 7 (0))) (1) (gB σ 7 (1))) (2) (gB σ 7 (2))) (3) (gB σ 7 (3))) (4) (gB σ 7 (4)))) := (o66 _ (by omega)).trans hR31
    have hR32 : h64 (m + 13) = some (cI D 4 (upd (upd (upd (upd (gB σ 32) (0) (gB σ 12 (0))) (1) (gB σ 12 (1))) (2) (gB σ 12 (2))) (3) (gB σ 12 (3)))) := (o66 _ (by omega)).trans hR32
    have hR34 : h64 (m + 15) = some (cI D 12 (upd (upd (upd (gB σ 34) (0) (gB σ 15 (0))) (1) (gB σ 15 (1))) (2) (gB σ 15 (2)))) := (o66 _ (by omega)).trans hR34
    have hO : ∀ q, (q < m ∨ m + 16 ≤ q) → h64 q = h q := fun q hq => (o66 q (by omega)).trans (hO q hq)
    refine g_aload_n C 1 dX12_image_125 rfl rfl rfl ?_
    refine gf_12_53 C (hMo) (v := .ref (m + 15)) rfl dX12_image_126 rfl ?_
    refine g_iload_n C 0 dX12_image_129 rfl rfl rfl ?_
    refine g_aload_n C 1 dX12_image_130 rfl rfl rfl ?_
    refine gf_12_31 C (hMo) (v := .ref (m + 8)) rfl dX12_image_131 rfl ?_
    refine g_iload_n C 0 dX12_image_134 rfl rfl rfl ?_
    refine g_iald' C (hR15) (j := 3) rfl (by omega) (by decide) dX12_image_135 rfl ?_
    refine g_iast' C (hR34) (j := 3) rfl (by omega) (by decide) dX12_image_136 (pc' := 137) rfl (fun h67 e68 o69 => ?_)
    have hR34 : h67 (m + 15) = some (cI D 12 (upd (upd (upd (upd (gB σ 34) (0) (gB σ 15 (0))) (1) (gB σ 15 (1))) (2) (gB σ 15 (2))) (3) (gB σ 15 (3)))) := e68
    have hMo : h67 (m) = some (.inr (12, [.int (nI (gN σ 0)), .int (nI (gN σ 1)), .ref (m + 1), .int (nI (gN σ 3)), .int (nI (gN σ 4)), .int (gI σ 5), .int (nI (gN σ 6)), .ref (m + 2), .int (nI (gN σ 8)), .ref (m + 3), .ref (m + 4), .ref (m + 5), .ref (m + 6), .int (nI (gN σ 13)), .ref (m + 7), .ref (m + 8), .int (nI (gN σ 16)), .ref (m + 9), .long (s18), .int (s19), .int (s20), .ref (m + 10), .ref (m + 11), .int (s23), .int (s24), .int (1), .int (nI (gN σ 1)), .int (gI σ 5), .int (nI (gN σ 6)), .int (nI (gN σ 8)), .int (nI (gN σ 13)), .ref (m + 12), .ref (m + 13), .ref (m + 14), .ref (m + 15), .long (s35)])) := (o69 _ (by omega)).trans hMo
    have hR2 : h67 (m + 1) = some (cI D 9 (tnS σ)) := (o69 _ (by omega)).trans hR2
    have hR7 : h67 (m + 2) = some (cI D 5 (gB σ 7)) := (o69 _ (by omega)).trans hR7
    have hR9 : h67 (m + 3) = some (cI D 4 (kdS σ)) := (o69 _ (by omega)).trans hR9
    have hR10 : h67 (m + 4) = some (cI D 4 (gB σ 10)) := (o69 _ (by omega)).trans hR10
    have hR11 : h67 (m + 5) = some (cI D 4 (gB σ 11)) := (o69 _ (by omega)).trans hR11
    have hR12 : h67 (m + 6) = some (cI D 4 (gB σ 12)) := (o69 _ (by omega)).trans hR12
    have hR14 : h67 (m + 7) = some (cI D 12 (gB σ 14)) := (o69 _ (by omega)).trans hR14
    have hR15 : h67 (m + 8) = some (cI D 12 (gB σ 15)) := (o69 _ (by omega)).trans hR15
    have hR17 : h67 (m + 9) = some (cB D 16 (gB σ 17)) := (o69 _ (by omega)).trans hR17
    have hR21 : h67 (m + 10) = some (cI D 5 (f21)) := (o69 _ (by omega)).trans hR21
    have hR22 : h67 (m + 11) = some (cI D 5 (f22)) := (o69 _ (by omega)).trans hR22
    have hR31 : h67 (m + 12) = some (cI D 5 (upd (upd (upd (upd (upd (gB σ 31) (0) (gB σ 7 (0))) (1) (gB σ 7 (1))) (2) (gB σ 7 (2))) (3) (gB σ 7 (3))) (4) (gB σ 7 (4)))) := (o69 _ (by omega)).trans hR31
    have hR32 : h67 (m + 13) = some (cI D 4 (upd (upd (upd (upd (gB σ 32) (0) (gB σ 12 (0))) (1) (gB σ 12 (1))) (2) (gB σ 12 (2))) (3) (gB σ 12 (3)))) := (o69 _ (by omega)).trans hR32
    have hR33 : h67 (m + 14) = some (cI D 12 (upd (upd (upd (upd (gB σ 33) (0) (gB σ 14 (0))) (1) (gB σ 14 (1))) (2) (gB σ 14 (2))) (3) (gB σ 14 (3)))) := (o69 _ (by omega)).trans hR33
    have hO : ∀ q, (q < m ∨ m + 16 ≤ q) → h67 q = h q := fun q hq => (o69 q (by omega)).trans (hO q hq)
    refine g_iinc C (v := 4) 0 ([(1, .int (4)), (0, .ref (m))]) dX12_image_137 rfl (by decide) (by decide) rfl rfl ?_
    refine g_goto C dX12_image_140 (tgt := 107) (by decide) ?_
    refine g_iload_n C 0 dX12_image_107 rfl rfl rfl ?_
    refine g_bipush C (v := 12) dX12_image_108 (by decide) rfl ?_
    refine g_icmp_ge C dX12_image_110 (tgt := 143) (by decide) (pc' := 113) rfl (fun c110 => absurd c110 (by decide)) (fun _ => ?_)
    refine g_aload_n C 1 dX12_image_113 rfl rfl rfl ?_
    refine gf_12_50 C (hMo) (v := .ref (m + 14)) rfl dX12_image_114 rfl ?_
    refine g_iload_n C 0 dX12_image_117 rfl rfl rfl ?_
    refine g_aload_n C 1 dX12_image_118 rfl rfl rfl ?_
    refine gf_12_28 C (hMo) (v := .ref (m + 7)) rfl dX12_image_119 rfl ?_
    refine g_iload_n C 0 dX12_image_122 rfl rfl rfl ?_
    refine g_iald' C (hR14) (j := 4) rfl (by omega) (by decide) dX12_image_123 rfl ?_
    refine g_iast' C (hR33) (j := 4) rfl (by omega) (by decide) dX12_image_124 (pc' := 125) rfl (fun h70 e71 o72 => ?_)
    have hR33 : h70 (m + 14) = some (cI D 12 (upd (upd (upd (upd (upd (gB σ 33) (0) (gB σ 14 (0))) (1) (gB σ 14 (1))) (2) (gB σ 14 (2))) (3) (gB σ 14 (3))) (4) (gB σ 14 (4)))) := e71
    have hMo : h70 (m) = some (.inr (12, [.int (nI (gN σ 0)), .int (nI (gN σ 1)), .ref (m + 1), .int (nI (gN σ 3)), .int (nI (gN σ 4)), .int (gI σ 5), .int (nI (gN σ 6)), .ref (m + 2), .int (nI (gN σ 8)), .ref (m + 3), .ref (m + 4), .ref (m + 5), .ref (m + 6), .int (nI (gN σ 13)), .ref (m + 7), .ref (m + 8), .int (nI (gN σ 16)), .ref (m + 9), .long (s18), .int (s19), .int (s20), .ref (m + 10), .ref (m + 11), .int (s23), .int (s24), .int (1), .int (nI (gN σ 1)), .int (gI σ 5), .int (nI (gN σ 6)), .int (nI (gN σ 8)), .int (nI (gN σ 13)), .ref (m + 12), .ref (m + 13), .ref (m + 14), .ref (m + 15), .long (s35)])) := (o72 _ (by omega)).trans hMo
    have hR2 : h70 (m + 1) = some (cI D 9 (tnS σ)) := (o72 _ (by omega)).trans hR2
    have hR7 : h70 (m + 2) = some (cI D 5 (gB σ 7)) := (o72 _ (by omega)).trans hR7
    have hR9 : h70 (m + 3) = some (cI D 4 (kdS σ)) := (o72 _ (by omega)).trans hR9
    have hR10 : h70 (m + 4) = some (cI D 4 (gB σ 10)) := (o72 _ (by omega)).trans hR10
    have hR11 : h70 (m + 5) = some (cI D 4 (gB σ 11)) := (o72 _ (by omega)).trans hR11
    have hR12 : h70 (m + 6) = some (cI D 4 (gB σ 12)) := (o72 _ (by omega)).trans hR12
    have hR14 : h70 (m + 7) = some (cI D 12 (gB σ 14)) := (o72 _ (by omega)).trans hR14
    have hR15 : h70 (m + 8) = some (cI D 12 (gB σ 15)) := (o72 _ (by omega)).trans hR15
    have hR17 : h70 (m + 9) = some (cB D 16 (gB σ 17)) := (o72 _ (by omega)).trans hR17
    have hR21 : h70 (m + 10) = some (cI D 5 (f21)) := (o72 _ (by omega)).trans hR21
    have hR22 : h70 (m + 11) = some (cI D 5 (f22)) := (o72 _ (by omega)).trans hR22
    have hR31 : h70 (m + 12) = some (cI D 5 (upd (upd (upd (upd (upd (gB σ 31) (0) (gB σ 7 (0))) (1) (gB σ 7 (1))) (2) (gB σ 7 (2))) (3) (gB σ 7 (3))) (4) (gB σ 7 (4)))) := (o72 _ (by omega)).trans hR31
    have hR32 : h70 (m + 13) = some (cI D 4 (upd (upd (upd (upd (gB σ 32) (0) (gB σ 12 (0))) (1) (gB σ 12 (1))) (2) (gB σ 12 (2))) (3) (gB σ 12 (3)))) := (o72 _ (by omega)).trans hR32
    have hR34 : h70 (m + 15) = some (cI D 12 (upd (upd (upd (upd (gB σ 34) (0) (gB σ 15 (0))) (1) (gB σ 15 (1))) (2) (gB σ 15 (2))) (3) (gB σ 15 (3)))) := (o72 _ (by omega)).trans hR34
    have hO : ∀ q, (q < m ∨ m + 16 ≤ q) → h70 q = h q := fun q hq => (o72 q (by omega)).trans (hO q hq)
    refine g_aload_n C 1 dX12_image_125 rfl rfl rfl ?_
    refine gf_12_53 C (hMo) (v := .ref (m + 15)) rfl dX12_image_126 rfl ?_
    refine g_iload_n C 0 dX12_image_129 rfl rfl rfl ?_
    refine g_aload_n C 1 dX12_image_130 rfl rfl rfl ?_
    refine gf_12_31 C (hMo) (v := .ref (m + 8)) rfl dX12_image_131 rfl ?_
    refine g_iload_n C 0 dX12_image_134 rfl rfl rfl ?_
    refine g_iald' C (hR15) (j := 4) rfl (by omega) (by decide) dX12_image_135 rfl ?_
    refine g_iast' C (hR34) (j := 4) rfl (by omega) (by decide) dX12_image_136 (pc' := 137) rfl (fun h73 e74 o75 => ?_)
    have hR34 : h73 (m + 15) = some (cI D 12 (upd (upd (upd (upd (upd (gB σ 34) (0) (gB σ 15 (0))) (1) (gB σ 15 (1))) (2) (gB σ 15 (2))) (3) (gB σ 15 (3))) (4) (gB σ 15 (4)))) := e74
    have hMo : h73 (m) = some (.inr (12, [.int (nI (gN σ 0)), .int (nI (gN σ 1)), .ref (m + 1), .int (nI (gN σ 3)), .int (nI (gN σ 4)), .int (gI σ 5), .int (nI (gN σ 6)), .ref (m + 2), .int (nI (gN σ 8)), .ref (m + 3), .ref (m + 4), .ref (m + 5), .ref (m + 6), .int (nI (gN σ 13)), .ref (m + 7), .ref (m + 8), .int (nI (gN σ 16)), .ref (m + 9), .long (s18), .int (s19), .int (s20), .ref (m + 10), .ref (m + 11), .int (s23), .int (s24), .int (1), .int (nI (gN σ 1)), .int (gI σ 5), .int (nI (gN σ 6)), .int (nI (gN σ 8)), .int (nI (gN σ 13)), .ref (m + 12), .ref (m + 13), .ref (m + 14), .ref (m + 15), .long (s35)])) := (o75 _ (by omega)).trans hMo
    have hR2 : h73 (m + 1) = some (cI D 9 (tnS σ)) := (o75 _ (by omega)).trans hR2
    have hR7 : h73 (m + 2) = some (cI D 5 (gB σ 7)) := (o75 _ (by omega)).trans hR7
    have hR9 : h73 (m + 3) = some (cI D 4 (kdS σ)) := (o75 _ (by omega)).trans hR9
    have hR10 : h73 (m + 4) = some (cI D 4 (gB σ 10)) := (o75 _ (by omega)).trans hR10
    have hR11 : h73 (m + 5) = some (cI D 4 (gB σ 11)) := (o75 _ (by omega)).trans hR11
    have hR12 : h73 (m + 6) = some (cI D 4 (gB σ 12)) := (o75 _ (by omega)).trans hR12
    have hR14 : h73 (m + 7) = some (cI D 12 (gB σ 14)) := (o75 _ (by omega)).trans hR14
    have hR15 : h73 (m + 8) = some (cI D 12 (gB σ 15)) := (o75 _ (by omega)).trans hR15
    have hR17 : h73 (m + 9) = some (cB D 16 (gB σ 17)) := (o75 _ (by omega)).trans hR17
    have hR21 : h73 (m + 10) = some (cI D 5 (f21)) := (o75 _ (by omega)).trans hR21
    have hR22 : h73 (m + 11) = some (cI D 5 (f22)) := (o75 _ (by omega)).trans hR22
    have hR31 : h73 (m + 12) = some (cI D 5 (upd (upd (upd (upd (upd (gB σ 31) (0) (gB σ 7 (0))) (1) (gB σ 7 (1))) (2) (gB σ 7 (2))) (3) (gB σ 7 (3))) (4) (gB σ 7 (4)))) := (o75 _ (by omega)).trans hR31
    have hR32 : h73 (m + 13) = some (cI D 4 (upd (upd (upd (upd (gB σ 32) (0) (gB σ 12 (0))) (1) (gB σ 12 (1))) (2) (gB σ 12 (2))) (3) (gB σ 12 (3)))) := (o75 _ (by omega)).trans hR32
    have hR33 : h73 (m + 14) = some (cI D 12 (upd (upd (upd (upd (upd (gB σ 33) (0) (gB σ 14 (0))) (1) (gB σ 14 (1))) (2) (gB σ 14 (2))) (3) (gB σ 14 (3))) (4) (gB σ 14 (4)))) := (o75 _ (by omega)).trans hR33
    have hO : ∀ q, (q < m ∨ m + 16 ≤ q) → h73 q = h q := fun q hq => (o75 q (by omega)).trans (hO q hq)
    refine g_iinc C (v := 5) 0 ([(1, .int (5)), (0, .ref (m))]) dX12_image_137 rfl (by decide) (by decide) rfl rfl ?_
    refine g_goto C dX12_image_140 (tgt := 107) (by decide) ?_
    refine g_iload_n C 0 dX12_image_107 rfl rfl rfl ?_
    refine g_bipush C (v := 12) dX12_image_108 (by decide) rfl ?_
    refine g_icmp_ge C dX12_image_110 (tgt := 143) (by decide) (pc' := 113) rfl (fun c110 => absurd c110 (by decide)) (fun _ => ?_)
    refine g_aload_n C 1 dX12_image_113 rfl rfl rfl ?_
    refine gf_12_50 C (hMo) (v := .ref (m + 14)) rfl dX12_image_114 rfl ?_
    refine g_iload_n C 0 dX12_image_117 rfl rfl rfl ?_
    refine g_aload_n C 1 dX12_image_118 rfl rfl rfl ?_
    refine gf_12_28 C (hMo) (v := .ref (m + 7)) rfl dX12_image_119 rfl ?_
    refine g_iload_n C 0 dX12_image_122 rfl rfl rfl ?_
    refine g_iald' C (hR14) (j := 5) rfl (by omega) (by decide) dX12_image_123 rfl ?_
    refine g_iast' C (hR33) (j := 5) rfl (by omega) (by decide) dX12_image_124 (pc' := 125) rfl (fun h76 e77 o78 => ?_)
    have hR33 : h76 (m + 14) = some (cI D 12 (upd (upd (upd (upd (upd (upd (gB σ 33) (0) (gB σ 14 (0))) (1) (gB σ 14 (1))) (2) (gB σ 14 (2))) (3) (gB σ 14 (3))) (4) (gB σ 14 (4))) (5) (gB σ 14 (5)))) := e77
    have hMo : h76 (m) = some (.inr (12, [.int (nI (gN σ 0)), .int (nI (gN σ 1)), .ref (m + 1), .int (nI (gN σ 3)), .int (nI (gN σ 4)), .int (gI σ 5), .int (nI (gN σ 6)), .ref (m + 2), .int (nI (gN σ 8)), .ref (m + 3), .ref (m + 4), .ref (m + 5), .ref (m + 6), .int (nI (gN σ 13)), .ref (m + 7), .ref (m + 8), .int (nI (gN σ 16)), .ref (m + 9), .long (s18), .int (s19), .int (s20), .ref (m + 10), .ref (m + 11), .int (s23), .int (s24), .int (1), .int (nI (gN σ 1)), .int (gI σ 5), .int (nI (gN σ 6)), .int (nI (gN σ 8)), .int (nI (gN σ 13)), .ref (m + 12), .ref (m + 13), .ref (m + 14), .ref (m + 15), .long (s35)])) := (o78 _ (by omega)).trans hMo
    have hR2 : h76 (m + 1) = some (cI D 9 (tnS σ)) := (o78 _ (by omega)).trans hR2
    have hR7 : h76 (m + 2) = some (cI D 5 (gB σ 7)) := (o78 _ (by omega)).trans hR7
    have hR9 : h76 (m + 3) = some (cI D 4 (kdS σ)) := (o78 _ (by omega)).trans hR9
    have hR10 : h76 (m + 4) = some (cI D 4 (gB σ 10)) := (o78 _ (by omega)).trans hR10
    have hR11 : h76 (m + 5) = some (cI D 4 (gB σ 11)) := (o78 _ (by omega)).trans hR11
    have hR12 : h76 (m + 6) = some (cI D 4 (gB σ 12)) := (o78 _ (by omega)).trans hR12
    have hR14 : h76 (m + 7) = some (cI D 12 (gB σ 14)) := (o78 _ (by omega)).trans hR14
    have hR15 : h76 (m + 8) = some (cI D 12 (gB σ 15)) := (o78 _ (by omega)).trans hR15
    have hR17 : h76 (m + 9) = some (cB D 16 (gB σ 17)) := (o78 _ (by omega)).trans hR17
    have hR21 : h76 (m + 10) = some (cI D 5 (f21)) := (o78 _ (by omega)).trans hR21
    have hR22 : h76 (m + 11) = some (cI D 5 (f22)) := (o78 _ (by omega)).trans hR22
    have hR31 : h76 (m + 12) = some (cI D 5 (upd (upd (upd (upd (upd (gB σ 31) (0) (gB σ 7 (0))) (1) (gB σ 7 (1))) (2) (gB σ 7 (2))) (3) (gB σ 7 (3))) (4) (gB σ 7 (4)))) := (o78 _ (by omega)).trans hR31
    have hR32 : h76 (m + 13) = some (cI D 4 (upd (upd (upd (upd (gB σ 32) (0) (gB σ 12 (0))) (1) (gB σ 12 (1))) (2) (gB σ 12 (2))) (3) (gB σ 12 (3)))) := (o78 _ (by omega)).trans hR32
    have hR34 : h76 (m + 15) = some (cI D 12 (upd (upd (upd (upd (upd (gB σ 34) (0) (gB σ 15 (0))) (1) (gB σ 15 (1))) (2) (gB σ 15 (2))) (3) (gB σ 15 (3))) (4) (gB σ 15 (4)))) := (o78 _ (by omega)).trans hR34
    have hO : ∀ q, (q < m ∨ m + 16 ≤ q) → h76 q = h q := fun q hq => (o78 q (by omega)).trans (hO q hq)
    refine g_aload_n C 1 dX12_image_125 rfl rfl rfl ?_
    refine gf_12_53 C (hMo) (v := .ref (m + 15)) rfl dX12_image_126 rfl ?_
    refine g_iload_n C 0 dX12_image_129 rfl rfl rfl ?_
    refine g_aload_n C 1 dX12_image_130 rfl rfl rfl ?_
    refine gf_12_31 C (hMo) (v := .ref (m + 8)) rfl dX12_image_131 rfl ?_
    refine g_iload_n C 0 dX12_image_134 rfl rfl rfl ?_
    refine g_iald' C (hR15) (j := 5) rfl (by omega) (by decide) dX12_image_135 rfl ?_
    refine g_iast' C (hR34) (j := 5) rfl (by omega) (by decide) dX12_image_136 (pc' := 137) rfl (fun h79 e80 o81 => ?_)
    have hR34 : h79 (m + 15) = some (cI D 12 (upd (upd (upd (upd (upd (upd (gB σ 34) (0) (gB σ 15 (0))) (1) (gB σ 15 (1))) (2) (gB σ 15 (2))) (3) (gB σ 15 (3))) (4) (gB σ 15 (4))) (5) (gB σ 15 (5)))) := e80
    have hMo : h79 (m) = some (.inr (12, [.int (nI (gN σ 0)), .int (nI (gN σ 1)), .ref (m + 1), .int (nI (gN σ 3)), .int (nI (gN σ 4)), .int (gI σ 5), .int (nI (gN σ 6)), .ref (m + 2), .int (nI (gN σ 8)), .ref (m + 3), .ref (m + 4), .ref (m + 5), .ref (m + 6), .int (nI (gN σ 13)), .ref (m + 7), .ref (m + 8), .int (nI (gN σ 16)), .ref (m + 9), .long (s18), .int (s19), .int (s20), .ref (m + 10), .ref (m + 11), .int (s23), .int (s24), .int (1), .int (nI (gN σ 1)), .int (gI σ 5), .int (nI (gN σ 6)), .int (nI (gN σ 8)), .int (nI (gN σ 13)), .ref (m + 12), .ref (m + 13), .ref (m + 14), .ref (m + 15), .long (s35)])) := (o81 _ (by omega)).trans hMo
    have hR2 : h79 (m + 1) = some (cI D 9 (tnS σ)) := (o81 _ (by omega)).trans hR2
    have hR7 : h79 (m + 2) = some (cI D 5 (gB σ 7)) := (o81 _ (by omega)).trans hR7
    have hR9 : h79 (m + 3) = some (cI D 4 (kdS σ)) := (o81 _ (by omega)).trans hR9
    have hR10 : h79 (m + 4) = some (cI D 4 (gB σ 10)) := (o81 _ (by omega)).trans hR10
    have hR11 : h79 (m + 5) = some (cI D 4 (gB σ 11)) := (o81 _ (by omega)).trans hR11
    have hR12 : h79 (m + 6) = some (cI D 4 (gB σ 12)) := (o81 _ (by omega)).trans hR12
    have hR14 : h79 (m + 7) = some (cI D 12 (gB σ 14)) := (o81 _ (by omega)).trans hR14
    have hR15 : h79 (m + 8) = some (cI D 12 (gB σ 15)) := (o81 _ (by omega)).trans hR15
    have hR17 : h79 (m + 9) = some (cB D 16 (gB σ 17)) := (o81 _ (by omega)).trans hR17
    have hR21 : h79 (m + 10) = some (cI D 5 (f21)) := (o81 _ (by omega)).trans hR21
    have hR22 : h79 (m + 11) = some (cI D 5 (f22)) := (o81 _ (by omega)).trans hR22
    have hR31 : h79 (m + 12) = some (cI D 5 (upd (upd (upd (upd (upd (gB σ 31) (0) (gB σ 7 (0))) (1) (gB σ 7 (1))) (2) (gB σ 7 (2))) (3) (gB σ 7 (3))) (4) (gB σ 7 (4)))) := (o81 _ (by omega)).trans hR31
    have hR32 : h79 (m + 13) = some (cI D 4 (upd (upd (upd (upd (gB σ 32) (0) (gB σ 12 (0))) (1) (gB σ 12 (1))) (2) (gB σ 12 (2))) (3) (gB σ 12 (3)))) := (o81 _ (by omega)).trans hR32
    have hR33 : h79 (m + 14) = some (cI D 12 (upd (upd (upd (upd (upd (upd (gB σ 33) (0) (gB σ 14 (0))) (1) (gB σ 14 (1))) (2) (gB σ 14 (2))) (3) (gB σ 14 (3))) (4) (gB σ 14 (4))) (5) (gB σ 14 (5)))) := (o81 _ (by omega)).trans hR33
    have hO : ∀ q, (q < m ∨ m + 16 ≤ q) → h79 q = h q := fun q hq => (o81 q (by omega)).trans (hO q hq)
    refine g_iinc C (v := 6) 0 ([(1, .int (6)), (0, .ref (m))]) dX12_image_137 rfl (by decide) (by decide) rfl rfl ?_
    refine g_goto C dX12_image_140 (tgt := 107) (by decide) ?_
    refine g_iload_n C 0 dX12_image_107 rfl rfl rfl ?_
    refine g_bipush C (v := 12) dX12_image_108 (by decide) rfl ?_
    refine g_icmp_ge C dX12_image_110 (tgt := 143) (by decide) (pc' := 113) rfl (fun c110 => absurd c110 (by decide)) (fun _ => ?_)
    refine g_aload_n C 1 dX12_image_113 rfl rfl rfl ?_
    refine gf_12_50 C (hMo) (v := .ref (m + 14)) rfl dX12_image_114 rfl ?_
    refine g_iload_n C 0 dX12_image_117 rfl rfl rfl ?_
    refine g_aload_n C 1 dX12_image_118 rfl rfl rfl ?_
    refine gf_12_28 C (hMo) (v := .ref (m + 7)) rfl dX12_image_119 rfl ?_
    refine g_iload_n C 0 dX12_image_122 rfl rfl rfl ?_
    refine g_iald' C (hR14) (j := 6) rfl (by omega) (by decide) dX12_image_123 rfl ?_
    refine g_iast' C (hR33) (j := 6) rfl (by omega) (by decide) dX12_image_124 (pc' := 125) rfl (fun h82 e83 o84 => ?_)
    have hR33 : h82 (m + 14) = some (cI D 12 (upd (upd (upd (upd (upd (upd (upd (gB σ 33) (0) (gB σ 14 (0))) (1) (gB σ 14 (1))) (2) (gB σ 14 (2))) (3) (gB σ 14 (3))) (4) (gB σ 14 (4))) (5) (gB σ 14 (5))) (6) (gB σ 14 (6)))) := e83
    have hMo : h82 (m) = some (.inr (12, [.int (nI (gN σ 0)), .int (nI (gN σ 1)), .ref (m + 1), .int (nI (gN σ 3)), .int (nI (gN σ 4)), .int (gI σ 5), .int (nI (gN σ 6)), .ref (m + 2), .int (nI (gN σ 8)), .ref (m + 3), .ref (m + 4), .ref (m + 5), .ref (m + 6), .int (nI (gN σ 13)), .ref (m + 7), .ref (m + 8), .int (nI (gN σ 16)), .ref (m + 9), .long (s18), .int (s19), .int (s20), .ref (m + 10), .ref (m + 11), .int (s23), .int (s24), .int (1), .int (nI (gN σ 1)), .int (gI σ 5), .int (nI (gN σ 6)), .int (nI (gN σ 8)), .int (nI (gN σ 13)), .ref (m + 12), .ref (m + 13), .ref (m + 14), .ref (m + 15), .long (s35)])) := (o84 _ (by omega)).trans hMo
    have hR2 : h82 (m + 1) = some (cI D 9 (tnS σ)) := (o84 _ (by omega)).trans hR2
    have hR7 : h82 (m + 2) = some (cI D 5 (gB σ 7)) := (o84 _ (by omega)).trans hR7
    have hR9 : h82 (m + 3) = some (cI D 4 (kdS σ)) := (o84 _ (by omega)).trans hR9
    have hR10 : h82 (m + 4) = some (cI D 4 (gB σ 10)) := (o84 _ (by omega)).trans hR10
    have hR11 : h82 (m + 5) = some (cI D 4 (gB σ 11)) := (o84 _ (by omega)).trans hR11
    have hR12 : h82 (m + 6) = some (cI D 4 (gB σ 12)) := (o84 _ (by omega)).trans hR12
    have hR14 : h82 (m + 7) = some (cI D 12 (gB σ 14)) := (o84 _ (by omega)).trans hR14
    have hR15 : h82 (m + 8) = some (cI D 12 (gB σ 15)) := (o84 _ (by omega)).trans hR15
    have hR17 : h82 (m + 9) = some (cB D 16 (gB σ 17)) := (o84 _ (by omega)).trans hR17
    have hR21 : h82 (m + 10) = some (cI D 5 (f21)) := (o84 _ (by omega)).trans hR21
    have hR22 : h82 (m + 11) = some (cI D 5 (f22)) := (o84 _ (by omega)).trans hR22
    have hR31 : h82 (m + 12) = some (cI D 5 (upd (upd (upd (upd (upd (gB σ 31) (0) (gB σ 7 (0))) (1) (gB σ 7 (1))) (2) (gB σ 7 (2))) (3) (gB σ 7 (3))) (4) (gB σ 7 (4)))) := (o84 _ (by omega)).trans hR31
    have hR32 : h82 (m + 13) = some (cI D 4 (upd (upd (upd (upd (gB σ 32) (0) (gB σ 12 (0))) (1) (gB σ 12 (1))) (2) (gB σ 12 (2))) (3) (gB σ 12 (3)))) := (o84 _ (by omega)).trans hR32
    have hR34 : h82 (m + 15) = some (cI D 12 (upd (upd (upd (upd (upd (upd (gB σ 34) (0) (gB σ 15 (0))) (1) (gB σ 15 (1))) (2) (gB σ 15 (2))) (3) (gB σ 15 (3))) (4) (gB σ 15 (4))) (5) (gB σ 15 (5)))) := (o84 _ (by omega)).trans hR34
    have hO : ∀ q, (q < m ∨ m + 16 ≤ q) → h82 q = h q := fun q hq => (o84 q (by omega)).trans (hO q hq)
    refine g_aload_n C 1 dX12_image_125 rfl rfl rfl ?_
    refine gf_12_53 C (hMo) (v := .ref (m + 15)) rfl dX12_image_126 rfl ?_
    refine g_iload_n C 0 dX12_image_129 rfl rfl rfl ?_
    refine g_aload_n C 1 dX12_image_130 rfl rfl rfl ?_
    refine gf_12_31 C (hMo) (v := .ref (m + 8)) rfl dX12_image_131 rfl ?_
    refine g_iload_n C 0 dX12_image_134 rfl rfl rfl ?_
    refine g_iald' C (hR15) (j := 6) rfl (by omega) (by decide) dX12_image_135 rfl ?_
    refine g_iast' C (hR34) (j := 6) rfl (by omega) (by decide) dX12_image_136 (pc' := 137) rfl (fun h85 e86 o87 => ?_)
    have hR34 : h85 (m + 15) = some (cI D 12 (upd (upd (upd (upd (upd (upd (upd (gB σ 34) (0) (gB σ 15 (0))) (1) (gB σ 15 (1))) (2) (gB σ 15 (2))) (3) (gB σ 15 (3))) (4) (gB σ 15 (4))) (5) (gB σ 15 (5))) (6) (gB σ 15 (6)))) := e86
    have hMo : h85 (m) = some (.inr (12, [.int (nI (gN σ 0)), .int (nI (gN σ 1)), .ref (m + 1), .int (nI (gN σ 3)), .int (nI (gN σ 4)), .int (gI σ 5), .int (nI (gN σ 6)), .ref (m + 2), .int (nI (gN σ 8)), .ref (m + 3), .ref (m + 4), .ref (m + 5), .ref (m + 6), .int (nI (gN σ 13)), .ref (m + 7), .ref (m + 8), .int (nI (gN σ 16)), .ref (m + 9), .long (s18), .int (s19), .int (s20), .ref (m + 10), .ref (m + 11), .int (s23), .int (s24), .int (1), .int (nI (gN σ 1)), .int (gI σ 5), .int (nI (gN σ 6)), .int (nI (gN σ 8)), .int (nI (gN σ 13)), .ref (m + 12), .ref (m + 13), .ref (m + 14), .ref (m + 15), .long (s35)])) := (o87 _ (by omega)).trans hMo
    have hR2 : h85 (m + 1) = some (cI D 9 (tnS σ)) := (o87 _ (by omega)).trans hR2
    have hR7 : h85 (m + 2) = some (cI D 5 (gB σ 7)) := (o87 _ (by omega)).trans hR7
    have hR9 : h85 (m + 3) = some (cI D 4 (kdS σ)) := (o87 _ (by omega)).trans hR9
    have hR10 : h85 (m + 4) = some (cI D 4 (gB σ 10)) := (o87 _ (by omega)).trans hR10
    have hR11 : h85 (m + 5) = some (cI D 4 (gB σ 11)) := (o87 _ (by omega)).trans hR11
    have hR12 : h85 (m + 6) = some (cI D 4 (gB σ 12)) := (o87 _ (by omega)).trans hR12
    have hR14 : h85 (m + 7) = some (cI D 12 (gB σ 14)) := (o87 _ (by omega)).trans hR14
    have hR15 : h85 (m + 8) = some (cI D 12 (gB σ 15)) := (o87 _ (by omega)).trans hR15
    have hR17 : h85 (m + 9) = some (cB D 16 (gB σ 17)) := (o87 _ (by omega)).trans hR17
    have hR21 : h85 (m + 10) = some (cI D 5 (f21)) := (o87 _ (by omega)).trans hR21
    have hR22 : h85 (m + 11) = some (cI D 5 (f22)) := (o87 _ (by omega)).trans hR22
    have hR31 : h85 (m + 12) = some (cI D 5 (upd (upd (upd (upd (upd (gB σ 31) (0) (gB σ 7 (0))) (1) (gB σ 7 (1))) (2) (gB σ 7 (2))) (3) (gB σ 7 (3))) (4) (gB σ 7 (4)))) := (o87 _ (by omega)).trans hR31
    have hR32 : h85 (m + 13) = some (cI D 4 (upd (upd (upd (upd (gB σ 32) (0) (gB σ 12 (0))) (1) (gB σ 12 (1))) (2) (gB σ 12 (2))) (3) (gB σ 12 (3)))) := (o87 _ (by omega)).trans hR32
    have hR33 : h85 (m + 14) = some (cI D 12 (upd (upd (upd (upd (upd (upd (upd (gB σ 33) (0) (gB σ 14 (0))) (1) (gB σ 14 (1))) (2) (gB σ 14 (2))) (3) (gB σ 14 (3))) (4) (gB σ 14 (4))) (5) (gB σ 14 (5))) (6) (gB σ 14 (6)))) := (o87 _ (by omega)).trans hR33
    have hO : ∀ q, (q < m ∨ m + 16 ≤ q) → h85 q = h q := fun q hq => (o87 q (by omega)).trans (hO q hq)
    refine g_iinc C (v := 7) 0 ([(1, .int (7)), (0, .ref (m))]) dX12_image_137 rfl (by decide) (by decide) rfl rfl ?_
    refine g_goto C dX12_image_140 (tgt := 107) (by decide) ?_
    refine g_iload_n C 0 dX12_image_107 rfl rfl rfl ?_
    refine g_bipush C (v := 12) dX12_image_108 (by decide) rfl ?_
    refine g_icmp_ge C dX12_image_110 (tgt := 143) (by decide) (pc' := 113) rfl (fun c110 => absurd c110 (by decide)) (fun _ => ?_)
    refine g_aload_n C 1 dX12_image_113 rfl rfl rfl ?_
    refine gf_12_50 C (hMo) (v := .ref (m + 14)) rfl dX12_image_114 rfl ?_
    refine g_iload_n C 0 dX12_image_117 rfl rfl rfl ?_
    refine g_aload_n C 1 dX12_image_118 rfl rfl rfl ?_
    refine gf_12_28 C (hMo) (v := .ref (m + 7)) rfl dX12_image_119 rfl ?_
    refine g_iload_n C 0 dX12_image_122 rfl rfl rfl ?_
    refine g_iald' C (hR14) (j := 7) rfl (by omega) (by decide) dX12_image_123 rfl ?_
    refine g_iast' C (hR33) (j := 7) rfl (by omega) (by decide) dX12_image_124 (pc' := 125) rfl (fun h88 e89 o90 => ?_)
    have hR33 : h88 (m + 14) = some (cI D 12 (upd (upd (upd (upd (upd (upd (upd (upd (gB σ 33) (0) (gB σ 14 (0))) (1) (gB σ 14 (1))) (2) (gB σ 14 (2))) (3) (gB σ 14 (3))) (4) (gB σ 14 (4))) (5) (gB σ 14 (5))) (6) (gB σ 14 (6))) (7) (gB σ 14 (7)))) := e89
    have hMo : h88 (m) = some (.inr (12, [.int (nI (gN σ 0)), .int (nI (gN σ 1)), .ref (m + 1), .int (nI (gN σ 3)), .int (nI (gN σ 4)), .int (gI σ 5), .int (nI (gN σ 6)), .ref (m + 2), .int (nI (gN σ 8)), .ref (m + 3), .ref (m + 4), .ref (m + 5), .ref (m + 6), .int (nI (gN σ 13)), .ref (m + 7), .ref (m + 8), .int (nI (gN σ 16)), .ref (m + 9), .long (s18), .int (s19), .int (s20), .ref (m + 10), .ref (m + 11), .int (s23), .int (s24), .int (1), .int (nI (gN σ 1)), .int (gI σ 5), .int (nI (gN σ 6)), .int (nI (gN σ 8)), .int (nI (gN σ 13)), .ref (m + 12), .ref (m + 13), .ref (m + 14), .ref (m + 15), .long (s35)])) := (o90 _ (by omega)).trans hMo
    have hR2 : h88 (m + 1) = some (cI D 9 (tnS σ)) := (o90 _ (by omega)).trans hR2
    have hR7 : h88 (m + 2) = some (cI D 5 (gB σ 7)) := (o90 _ (by omega)).trans hR7
    have hR9 : h88 (m + 3) = some (cI D 4 (kdS σ)) := (o90 _ (by omega)).trans hR9
    have hR10 : h88 (m + 4) = some (cI D 4 (gB σ 10)) := (o90 _ (by omega)).trans hR10
    have hR11 : h88 (m + 5) = some (cI D 4 (gB σ 11)) := (o90 _ (by omega)).trans hR11
    have hR12 : h88 (m + 6) = some (cI D 4 (gB σ 12)) := (o90 _ (by omega)).trans hR12
    have hR14 : h88 (m + 7) = some (cI D 12 (gB σ 14)) := (o90 _ (by omega)).trans hR14
    have hR15 : h88 (m + 8) = some (cI D 12 (gB σ 15)) := (o90 _ (by omega)).trans hR15
    have hR17 : h88 (m + 9) = some (cB D 16 (gB σ 17)) := (o90 _ (by omega)).trans hR17
    have hR21 : h88 (m + 10) = some (cI D 5 (f21)) := (o90 _ (by omega)).trans hR21
    have hR22 : h88 (m + 11) = some (cI D 5 (f22)) := (o90 _ (by omega)).trans hR22
    have hR31 : h88 (m + 12) = some (cI D 5 (upd (upd (upd (upd (upd (gB σ 31) (0) (gB σ 7 (0))) (1) (gB σ 7 (1))) (2) (gB σ 7 (2))) (3) (gB σ 7 (3))) (4) (gB σ 7 (4)))) := (o90 _ (by omega)).trans hR31
    have hR32 : h88 (m + 13) = some (cI D 4 (upd (upd (upd (upd (gB σ 32) (0) (gB σ 12 (0))) (1) (gB σ 12 (1))) (2) (gB σ 12 (2))) (3) (gB σ 12 (3)))) := (o90 _ (by omega)).trans hR32
    have hR34 : h88 (m + 15) = some (cI D 12 (upd (upd (upd (upd (upd (upd (upd (gB σ 34) (0) (gB σ 15 (0))) (1) (gB σ 15 (1))) (2) (gB σ 15 (2))) (3) (gB σ 15 (3))) (4) (gB σ 15 (4))) (5) (gB σ 15 (5))) (6) (gB σ 15 (6)))) := (o90 _ (by omega)).trans hR34
    have hO : ∀ q, (q < m ∨ m + 16 ≤ q) → h88 q = h q := fun q hq => (o90 q (by omega)).trans (hO q hq)
    refine g_aload_n C 1 dX12_image_125 rfl rfl rfl ?_
    refine gf_12_53 C (hMo) (v := .ref (m + 15)) rfl dX12_image_126 rfl ?_
    refine g_iload_n C 0 dX12_image_129 rfl rfl rfl ?_
    refine g_aload_n C 1 dX12_image_130 rfl rfl rfl ?_
    refine gf_12_31 C (hMo) (v := .ref (m + 8)) rfl dX12_image_131 rfl ?_
    refine g_iload_n C 0 dX12_image_134 rfl rfl rfl ?_
    refine g_iald' C (hR15) (j := 7) rfl (by omega) (by decide) dX12_image_135 rfl ?_
    refine g_iast' C (hR34) (j := 7) rfl (by omega) (by decide) dX12_image_136 (pc' := 137) rfl (fun h91 e92 o93 => ?_)
    have hR34 : h91 (m + 15) = some (cI D 12 (upd (upd (upd (upd (upd (upd (upd (upd (gB σ 34) (0) (gB σ 15 (0))) (1) (gB σ 15 (1))) (2) (gB σ 15 (2))) (3) (gB σ 15 (3))) (4) (gB σ 15 (4))) (5) (gB σ 15 (5))) (6) (gB σ 15 (6))) (7) (gB σ 15 (7)))) := e92
    have hMo : h91 (m) = some (.inr (12, [.int (nI (gN σ 0)), .int (nI (gN σ 1)), .ref (m + 1), .int (nI (gN σ 3)), .int (nI (gN σ 4)), .int (gI σ 5), .int (nI (gN σ 6)), .ref (m + 2), .int (nI (gN σ 8)), .ref (m + 3), .ref (m + 4), .ref (m + 5), .ref (m + 6), .int (nI (gN σ 13)), .ref (m + 7), .ref (m + 8), .int (nI (gN σ 16)), .ref (m + 9), .long (s18), .int (s19), .int (s20), .ref (m + 10), .ref (m + 11), .int (s23), .int (s24), .int (1), .int (nI (gN σ 1)), .int (gI σ 5), .int (nI (gN σ 6)), .int (nI (gN σ 8)), .int (nI (gN σ 13)), .ref (m + 12), .ref (m + 13), .ref (m + 14), .ref (m + 15), .long (s35)])) := (o93 _ (by omega)).trans hMo
    have hR2 : h91 (m + 1) = some (cI D 9 (tnS σ)) := (o93 _ (by omega)).trans hR2
    have hR7 : h91 (m + 2) = some (cI D 5 (gB σ 7)) := (o93 _ (by omega)).trans hR7
    have hR9 : h91 (m + 3) = some (cI D 4 (kdS σ)) := (o93 _ (by omega)).trans hR9
    have hR10 : h91 (m + 4) = some (cI D 4 (gB σ 10)) := (o93 _ (by omega)).trans hR10
    have hR11 : h91 (m + 5) = some (cI D 4 (gB σ 11)) := (o93 _ (by omega)).trans hR11
    have hR12 : h91 (m + 6) = some (cI D 4 (gB σ 12)) := (o93 _ (by omega)).trans hR12
    have hR14 : h91 (m + 7) = some (cI D 12 (gB σ 14)) := (o93 _ (by omega)).trans hR14
    have hR15 : h91 (m + 8) = some (cI D 12 (gB σ 15)) := (o93 _ (by omega)).trans hR15
    have hR17 : h91 (m + 9) = some (cB D 16 (gB σ 17)) := (o93 _ (by omega)).trans hR17
    have hR21 : h91 (m + 10) = some (cI D 5 (f21)) := (o93 _ (by omega)).trans hR21
    have hR22 : h91 (m + 11) = some (cI D 5 (f22)) := (o93 _ (by omega)).trans hR22
    have hR31 : h91 (m + 12) = some (cI D 5 (upd (upd (upd (upd (upd (gB σ 31) (0) (gB σ 7 (0))) (1) (gB σ 7 (1))) (2) (gB σ 7 (2))) (3) (gB σ 7 (3))) (4) (gB σ 7 (4)))) := (o93 _ (by omega)).trans hR31
    have hR32 : h91 (m + 13) = some (cI D 4 (upd (upd (upd (upd (gB σ 32) (0) (gB σ 12 (0))) (1) (gB σ 12 (1))) (2) (gB σ 12 (2))) (3) (gB σ 12 (3)))) := (o93 _ (by omega)).trans hR32
    have hR33 : h91 (m + 14) = some (cI D 12 (upd (upd (upd (upd (upd (upd (upd (upd (gB σ 33) (0) (gB σ 14 (0))) (1) (gB σ 14 (1))) (2) (gB σ 14 (2))) (3) (gB σ 14 (3))) (4) (gB σ 14 (4))) (5) (gB σ 14 (5))) (6) (gB σ 14 (6))) (7) (gB σ 14 (7)))) := (o93 _ (by omega)).trans hR33
    have hO : ∀ q, (q < m ∨ m + 16 ≤ q) → h91 q = h q := fun q hq => (o93 q (by omega)).trans (hO q hq)
    refine g_iinc C (v := 8) 0 ([(1, .int (8)), (0, .ref (m))]) dX12_image_137 rfl (by decide) (by decide) rfl rfl ?_
    refine g_goto C dX12_image_140 (tgt := 107) (by decide) ?_
    refine g_iload_n C 0 dX12_image_107 rfl rfl rfl ?_
    refine g_bipush C (v := 12) dX12_image_108 (by decide) rfl ?_
    refine g_icmp_ge C dX12_image_110 (tgt := 143) (by decide) (pc' := 113) rfl (fun c110 => absurd c110 (by decide)) (fun _ => ?_)
    refine g_aload_n C 1 dX12_image_113 rfl rfl rfl ?_
    refine gf_12_50 C (hMo) (v := .ref (m + 14)) rfl dX12_image_114 rfl ?_
    refine g_iload_n C 0 dX12_image_117 rfl rfl rfl ?_
    refine g_aload_n C 1 dX12_image_118 rfl rfl rfl ?_
    refine gf_12_28 C (hMo) (v := .ref (m + 7)) rfl dX12_image_119 rfl ?_
    refine g_iload_n C 0 dX12_image_122 rfl rfl rfl ?_
    refine g_iald' C (hR14) (j := 8) rfl (by omega) (by decide) dX12_image_123 rfl ?_
    refine g_iast' C (hR33) (j := 8) rfl (by omega) (by decide) dX12_image_124 (pc' := 125) rfl (fun h94 e95 o96 => ?_)
    have hR33 : h94 (m + 14) = some (cI D 12 (upd (upd (upd (upd (upd (upd (upd (upd (upd (gB σ 33) (0) (gB σ 14 (0))) (1) (gB σ 14 (1))) (2) (gB σ 14 (2))) (3) (gB σ 14 (3))) (4) (gB σ 14 (4))) (5) (gB σ 14 (5))) (6) (gB σ 14 (6))) (7) (gB σ 14 (7))) (8) (gB σ 14 (8)))) := e95
    have hMo : h94 (m) = some (.inr (12, [.int (nI (gN σ 0)), .int (nI (gN σ 1)), .ref (m + 1), .int (nI (gN σ 3)), .int (nI (gN σ 4)), .int (gI σ 5), .int (nI (gN σ 6)), .ref (m + 2), .int (nI (gN σ 8)), .ref (m + 3), .ref (m + 4), .ref (m + 5), .ref (m + 6), .int (nI (gN σ 13)), .ref (m + 7), .ref (m + 8), .int (nI (gN σ 16)), .ref (m + 9), .long (s18), .int (s19), .int (s20), .ref (m + 10), .ref (m + 11), .int (s23), .int (s24), .int (1), .int (nI (gN σ 1)), .int (gI σ 5), .int (nI (gN σ 6)), .int (nI (gN σ 8)), .int (nI (gN σ 13)), .ref (m + 12), .ref (m + 13), .ref (m + 14), .ref (m + 15), .long (s35)])) := (o96 _ (by omega)).trans hMo
    have hR2 : h94 (m + 1) = some (cI D 9 (tnS σ)) := (o96 _ (by omega)).trans hR2
    have hR7 : h94 (m + 2) = some (cI D 5 (gB σ 7)) := (o96 _ (by omega)).trans hR7
    have hR9 : h94 (m + 3) = some (cI D 4 (kdS σ)) := (o96 _ (by omega)).trans hR9
    have hR10 : h94 (m + 4) = some (cI D 4 (gB σ 10)) := (o96 _ (by omega)).trans hR10
    have hR11 : h94 (m + 5) = some (cI D 4 (gB σ 11)) := (o96 _ (by omega)).trans hR11
    have hR12 : h94 (m + 6) = some (cI D 4 (gB σ 12)) := (o96 _ (by omega)).trans hR12
    have hR14 : h94 (m + 7) = some (cI D 12 (gB σ 14)) := (o96 _ (by omega)).trans hR14
    have hR15 : h94 (m + 8) = some (cI D 12 (gB σ 15)) := (o96 _ (by omega)).trans hR15
    have hR17 : h94 (m + 9) = some (cB D 16 (gB σ 17)) := (o96 _ (by omega)).trans hR17
    have hR21 : h94 (m + 10) = some (cI D 5 (f21)) := (o96 _ (by omega)).trans hR21
    have hR22 : h94 (m + 11) = some (cI D 5 (f22)) := (o96 _ (by omega)).trans hR22
    have hR31 : h94 (m + 12) = some (cI D 5 (upd (upd (upd (upd (upd (gB σ 31) (0) (gB σ 7 (0))) (1) (gB σ 7 (1))) (2) (gB σ 7 (2))) (3) (gB σ 7 (3))) (4) (gB σ 7 (4)))) := (o96 _ (by omega)).trans hR31
    have hR32 : h94 (m + 13) = some (cI D 4 (upd (upd (upd (upd (gB σ 32) (0) (gB σ 12 (0))) (1) (gB σ 12 (1))) (2) (gB σ 12 (2))) (3) (gB σ 12 (3)))) := (o96 _ (by omega)).trans hR32
    have hR34 : h94 (m + 15) = some (cI D 12 (upd (upd (upd (upd (upd (upd (upd (upd (gB σ 34) (0) (gB σ 15 (0))) (1) (gB σ 15 (1))) (2) (gB σ 15 (2))) (3) (gB σ 15 (3))) (4) (gB σ 15 (4))) (5) (gB σ 15 (5))) (6) (gB σ 15 (6))) (7) (gB σ 15 (7)))) := (o96 _ (by omega)).trans hR34
    have hO : ∀ q, (q < m ∨ m + 16 ≤ q) → h94 q = h q := fun q hq => (o96 q (by omega)).trans (hO q hq)
    refine g_aload_n C 1 dX12_image_125 rfl rfl rfl ?_
    refine gf_12_53 C (hMo) (v := .ref (m + 15)) rfl dX12_image_126 rfl ?_
    refine g_iload_n C 0 dX12_image_129 rfl rfl rfl ?_
    refine g_aload_n C 1 dX12_image_130 rfl rfl rfl ?_
    refine gf_12_31 C (hMo) (v := .ref (m + 8)) rfl dX12_image_131 rfl ?_
    refine g_iload_n C 0 dX12_image_134 rfl rfl rfl ?_
    refine g_iald' C (hR15) (j := 8) rfl (by omega) (by decide) dX12_image_135 rfl ?_
    refine g_iast' C (hR34) (j := 8) rfl (by omega) (by decide) dX12_image_136 (pc' := 137) rfl (fun h97 e98 o99 => ?_)
    have hR34 : h97 (m + 15) = some (cI D 12 (upd (upd (upd (upd (upd (upd (upd (upd (upd (gB σ 34) (0) (gB σ 15 (0))) (1) (gB σ 15 (1))) (2) (gB σ 15 (2))) (3) (gB σ 15 (3))) (4) (gB σ 15 (4))) (5) (gB σ 15 (5))) (6) (gB σ 15 (6))) (7) (gB σ 15 (7))) (8) (gB σ 15 (8)))) := e98
    have hMo : h97 (m) = some (.inr (12, [.int (nI (gN σ 0)), .int (nI (gN σ 1)), .ref (m + 1), .int (nI (gN σ 3)), .int (nI (gN σ 4)), .int (gI σ 5), .int (nI (gN σ 6)), .ref (m + 2), .int (nI (gN σ 8)), .ref (m + 3), .ref (m + 4), .ref (m + 5), .ref (m + 6), .int (nI (gN σ 13)), .ref (m + 7), .ref (m + 8), .int (nI (gN σ 16)), .ref (m + 9), .long (s18), .int (s19), .int (s20), .ref (m + 10), .ref (m + 11), .int (s23), .int (s24), .int (1), .int (nI (gN σ 1)), .int (gI σ 5), .int (nI (gN σ 6)), .int (nI (gN σ 8)), .int (nI (gN σ 13)), .ref (m + 12), .ref (m + 13), .ref (m + 14), .ref (m + 15), .long (s35)])) := (o99 _ (by omega)).trans hMo
    have hR2 : h97 (m + 1) = some (cI D 9 (tnS σ)) := (o99 _ (by omega)).trans hR2
    have hR7 : h97 (m + 2) = some (cI D 5 (gB σ 7)) := (o99 _ (by omega)).trans hR7
    have hR9 : h97 (m + 3) = some (cI D 4 (kdS σ)) := (o99 _ (by omega)).trans hR9
    have hR10 : h97 (m + 4) = some (cI D 4 (gB σ 10)) := (o99 _ (by omega)).trans hR10
    have hR11 : h97 (m + 5) = some (cI D 4 (gB σ 11)) := (o99 _ (by omega)).trans hR11
    have hR12 : h97 (m + 6) = some (cI D 4 (gB σ 12)) := (o99 _ (by omega)).trans hR12
    have hR14 : h97 (m + 7) = some (cI D 12 (gB σ 14)) := (o99 _ (by omega)).trans hR14
    have hR15 : h97 (m + 8) = some (cI D 12 (gB σ 15)) := (o99 _ (by omega)).trans hR15
    have hR17 : h97 (m + 9) = some (cB D 16 (gB σ 17)) := (o99 _ (by omega)).trans hR17
    have hR21 : h97 (m + 10) = some (cI D 5 (f21)) := (o99 _ (by omega)).trans hR21
    have hR22 : h97 (m + 11) = some (cI D 5 (f22)) := (o99 _ (by omega)).trans hR22
    have hR31 : h97 (m + 12) = some (cI D 5 (upd (upd (upd (upd (upd (gB σ 31) (0) (gB σ 7 (0))) (1) (gB σ 7 (1))) (2) (gB σ 7 (2))) (3) (gB σ 7 (3))) (4) (gB σ 7 (4)))) := (o99 _ (by omega)).trans hR31
    have hR32 : h97 (m + 13) = some (cI D 4 (upd (upd (upd (upd (gB σ 32) (0) (gB σ 12 (0))) (1) (gB σ 12 (1))) (2) (gB σ 12 (2))) (3) (gB σ 12 (3)))) := (o99 _ (by omega)).trans hR32
    have hR33 : h97 (m + 14) = some (cI D 12 (upd (upd (upd (upd (upd (upd (upd (upd (upd (gB σ 33) (0) (gB σ 14 (0))) (1) (gB σ 14 (1))) (2) (gB σ 14 (2))) (3) (gB σ 14 (3))) (4) (gB σ 14 (4))) (5) (gB σ 14 (5))) (6) (gB σ 14 (6))) (7) (gB σ 14 (7))) (8) (gB σ 14 (8)))) := (o99 _ (by omega)).trans hR33
    have hO : ∀ q, (q < m ∨ m + 16 ≤ q) → h97 q = h q := fun q hq => (o99 q (by omega)).trans (hO q hq)
    refine g_iinc C (v := 9) 0 ([(1, .int (9)), (0, .ref (m))]) dX12_image_137 rfl (by decide) (by decide) rfl rfl ?_
    refine g_goto C dX12_image_140 (tgt := 107) (by decide) ?_
    refine g_iload_n C 0 dX12_image_107 rfl rfl rfl ?_
    refine g_bipush C (v := 12) dX12_image_108 (by decide) rfl ?_
    refine g_icmp_ge C dX12_image_110 (tgt := 143) (by decide) (pc' := 113) rfl (fun c110 => absurd c110 (by decide)) (fun _ => ?_)
    refine g_aload_n C 1 dX12_image_113 rfl rfl rfl ?_
    refine gf_12_50 C (hMo) (v := .ref (m + 14)) rfl dX12_image_114 rfl ?_
    refine g_iload_n C 0 dX12_image_117 rfl rfl rfl ?_
    refine g_aload_n C 1 dX12_image_118 rfl rfl rfl ?_
    refine gf_12_28 C (hMo) (v := .ref (m + 7)) rfl dX12_image_119 rfl ?_
    refine g_iload_n C 0 dX12_image_122 rfl rfl rfl ?_
    refine g_iald' C (hR14) (j := 9) rfl (by omega) (by decide) dX12_image_123 rfl ?_
    refine g_iast' C (hR33) (j := 9) rfl (by omega) (by decide) dX12_image_124 (pc' := 125) rfl (fun h100 e101 o102 => ?_)
    have hR33 : h100 (m + 14) = some (cI D 12 (upd (upd (upd (upd (upd (upd (upd (upd (upd (upd (gB σ 33) (0) (gB σ 14 (0))) (1) (gB σ 14 (1))) (2) (gB σ 14 (2))) (3) (gB σ 14 (3))) (4) (gB σ 14 (4))) (5) (gB σ 14 (5))) (6) (gB σ 14 (6))) (7) (gB σ 14 (7))) (8) (gB σ 14 (8))) (9) (gB σ 14 (9)))) := e101
    have hMo : h100 (m) = some (.inr (12, [.int (nI (gN σ 0)), .int (nI (gN σ 1)), .ref (m + 1), .int (nI (gN σ 3)), .int (nI (gN σ 4)), .int (gI σ 5), .int (nI (gN σ 6)), .ref (m + 2), .int (nI (gN σ 8)), .ref (m + 3), .ref (m + 4), .ref (m + 5), .ref (m + 6), .int (nI (gN σ 13)), .ref (m + 7), .ref (m + 8), .int (nI (gN σ 16)), .ref (m + 9), .long (s18), .int (s19), .int (s20), .ref (m + 10), .ref (m + 11), .int (s23), .int (s24), .int (1), .int (nI (gN σ 1)), .int (gI σ 5), .int (nI (gN σ 6)), .int (nI (gN σ 8)), .int (nI (gN σ 13)), .ref (m + 12), .ref (m + 13), .ref (m + 14), .ref (m + 15), .long (s35)])) := (o102 _ (by omega)).trans hMo
    have hR2 : h100 (m + 1) = some (cI D 9 (tnS σ)) := (o102 _ (by omega)).trans hR2
    have hR7 : h100 (m + 2) = some (cI D 5 (gB σ 7)) := (o102 _ (by omega)).trans hR7
    have hR9 : h100 (m + 3) = some (cI D 4 (kdS σ)) := (o102 _ (by omega)).trans hR9
    have hR10 : h100 (m + 4) = some (cI D 4 (gB σ 10)) := (o102 _ (by omega)).trans hR10
    have hR11 : h100 (m + 5) = some (cI D 4 (gB σ 11)) := (o102 _ (by omega)).trans hR11
    have hR12 : h100 (m + 6) = some (cI D 4 (gB σ 12)) := (o102 _ (by omega)).trans hR12
    have hR14 : h100 (m + 7) = some (cI D 12 (gB σ 14)) := (o102 _ (by omega)).trans hR14
    have hR15 : h100 (m + 8) = some (cI D 12 (gB σ 15)) := (o102 _ (by omega)).trans hR15
    have hR17 : h100 (m + 9) = some (cB D 16 (gB σ 17)) := (o102 _ (by omega)).trans hR17
    have hR21 : h100 (m + 10) = some (cI D 5 (f21)) := (o102 _ (by omega)).trans hR21
    have hR22 : h100 (m + 11) = some (cI D 5 (f22)) := (o102 _ (by omega)).trans hR22
    have hR31 : h100 (m + 12) = some (cI D 5 (upd (upd (upd (upd (upd (gB σ 31) (0) (gB σ 7 (0))) (1) (gB σ 7 (1))) (2) (gB σ 7 (2))) (3) (gB σ 7 (3))) (4) (gB σ 7 (4)))) := (o102 _ (by omega)).trans hR31
    have hR32 : h100 (m + 13) = some (cI D 4 (upd (upd (upd (upd (gB σ 32) (0) (gB σ 12 (0))) (1) (gB σ 12 (1))) (2) (gB σ 12 (2))) (3) (gB σ 12 (3)))) := (o102 _ (by omega)).trans hR32
    have hR34 : h100 (m + 15) = some (cI D 12 (upd (upd (upd (upd (upd (upd (upd (upd (upd (gB σ 34) (0) (gB σ 15 (0))) (1) (gB σ 15 (1))) (2) (gB σ 15 (2))) (3) (gB σ 15 (3))) (4) (gB σ 15 (4))) (5) (gB σ 15 (5))) (6) (gB σ 15 (6))) (7) (gB σ 15 (7))) (8) (gB σ 15 (8)))) := (o102 _ (by omega)).trans hR34
    have hO : ∀ q, (q < m ∨ m + 16 ≤ q) → h100 q = h q := fun q hq => (o102 q (by omega)).trans (hO q hq)
    refine g_aload_n C 1 dX12_image_125 rfl rfl rfl ?_
    refine gf_12_53 C (hMo) (v := .ref (m + 15)) rfl dX12_image_126 rfl ?_
    refine g_iload_n C 0 dX12_image_129 rfl rfl rfl ?_
    refine g_aload_n C 1 dX12_image_130 rfl rfl rfl ?_
    refine gf_12_31 C (hMo) (v := .ref (m + 8)) rfl dX12_image_131 rfl ?_
    refine g_iload_n C 0 dX12_image_134 rfl rfl rfl ?_
    refine g_iald' C (hR15) (j := 9) rfl (by omega) (by decide) dX12_image_135 rfl ?_
    refine g_iast' C (hR34) (j := 9) rfl (by omega) (by decide) dX12_image_136 (pc' := 137) rfl (fun h103 e104 o105 => ?_)
    have hR34 : h103 (m + 15) = some (cI D 12 (upd (upd (upd (upd (upd (upd (upd (upd (upd (upd (gB σ 34) (0) (gB σ 15 (0))) (1) (gB σ 15 (1))) (2) (gB σ 15 (2))) (3) (gB σ 15 (3))) (4) (gB σ 15 (4))) (5) (gB σ 15 (5))) (6) (gB σ 15 (6))) (7) (gB σ 15 (7))) (8) (gB σ 15 (8))) (9) (gB σ 15 (9)))) := e104
    have hMo : h103 (m) = some (.inr (12, [.int (nI (gN σ 0)), .int (nI (gN σ 1)), .ref (m + 1), .int (nI (gN σ 3)), .int (nI (gN σ 4)), .int (gI σ 5), .int (nI (gN σ 6)), .ref (m + 2), .int (nI (gN σ 8)), .ref (m + 3), .ref (m + 4), .ref (m + 5), .ref (m + 6), .int (nI (gN σ 13)), .ref (m + 7), .ref (m + 8), .int (nI (gN σ 16)), .ref (m + 9), .long (s18), .int (s19), .int (s20), .ref (m + 10), .ref (m + 11), .int (s23), .int (s24), .int (1), .int (nI (gN σ 1)), .int (gI σ 5), .int (nI (gN σ 6)), .int (nI (gN σ 8)), .int (nI (gN σ 13)), .ref (m + 12), .ref (m + 13), .ref (m + 14), .ref (m + 15), .long (s35)])) := (o105 _ (by omega)).trans hMo
    have hR2 : h103 (m + 1) = some (cI D 9 (tnS σ)) := (o105 _ (by omega)).trans hR2
    have hR7 : h103 (m + 2) = some (cI D 5 (gB σ 7)) := (o105 _ (by omega)).trans hR7
    have hR9 : h103 (m + 3) = some (cI D 4 (kdS σ)) := (o105 _ (by omega)).trans hR9
    have hR10 : h103 (m + 4) = some (cI D 4 (gB σ 10)) := (o105 _ (by omega)).trans hR10
    have hR11 : h103 (m + 5) = some (cI D 4 (gB σ 11)) := (o105 _ (by omega)).trans hR11
    have hR12 : h103 (m + 6) = some (cI D 4 (gB σ 12)) := (o105 _ (by omega)).trans hR12
    have hR14 : h103 (m + 7) = some (cI D 12 (gB σ 14)) := (o105 _ (by omega)).trans hR14
    have hR15 : h103 (m + 8) = some (cI D 12 (gB σ 15)) := (o105 _ (by omega)).trans hR15
    have hR17 : h103 (m + 9) = some (cB D 16 (gB σ 17)) := (o105 _ (by omega)).trans hR17
    have hR21 : h103 (m + 10) = some (cI D 5 (f21)) := (o105 _ (by omega)).trans hR21
    have hR22 : h103 (m + 11) = some (cI D 5 (f22)) := (o105 _ (by omega)).trans hR22
    have hR31 : h103 (m + 12) = some (cI D 5 (upd (upd (upd (upd (upd (gB σ 31) (0) (gB σ 7 (0))) (1) (gB σ 7 (1))) (2) (gB σ 7 (2))) (3) (gB σ 7 (3))) (4) (gB σ 7 (4)))) := (o105 _ (by omega)).trans hR31
    have hR32 : h103 (m + 13) = some (cI D 4 (upd (upd (upd (upd (gB σ 32) (0) (gB σ 12 (0))) (1) (gB σ 12 (1))) (2) (gB σ 12 (2))) (3) (gB σ 12 (3)))) := (o105 _ (by omega)).trans hR32
    have hR33 : h103 (m + 14) = some (cI D 12 (upd (upd (upd (upd (upd (upd (upd (upd (upd (upd (gB σ 33) (0) (gB σ 14 (0))) (1) (gB σ 14 (1))) (2) (gB σ 14 (2))) (3) (gB σ 14 (3))) (4) (gB σ 14 (4))) (5) (gB σ 14 (5))) (6) (gB σ 14 (6))) (7) (gB σ 14 (7))) (8) (gB σ 14 (8))) (9) (gB σ 14 (9)))) := (o105 _ (by omega)).trans hR33
    have hO : ∀ q, (q < m ∨ m + 16 ≤ q) → h103 q = h q := fun q hq => (o105 q (by omega)).trans (hO q hq)
    refine g_iinc C (v := 10) 0 ([(1, .int (10)), (0, .ref (m))]) dX12_image_137 rfl (by decide) (by decide) rfl rfl ?_
    refine g_goto C dX12_image_140 (tgt := 107) (by decide) ?_
    refine g_iload_n C 0 dX12_image_107 rfl rfl rfl ?_
    refine g_bipush C (v := 12) dX12_image_108 (by decide) rfl ?_
    refine g_icmp_ge C dX12_image_110 (tgt := 143) (by decide) (pc' := 113) rfl (fun c110 => absurd c110 (by decide)) (fun _ => ?_)
    refine g_aload_n C 1 dX12_image_113 rfl rfl rfl ?_
    refine gf_12_50 C (hMo) (v := .ref (m + 14)) rfl dX12_image_114 rfl ?_
    refine g_iload_n C 0 dX12_image_117 rfl rfl rfl ?_
    refine g_aload_n C 1 dX12_image_118 rfl rfl rfl ?_
    refine gf_12_28 C (hMo) (v := .ref (m + 7)) rfl dX12_image_119 rfl ?_
    refine g_iload_n C 0 dX12_image_122 rfl rfl rfl ?_
    refine g_iald' C (hR14) (j := 10) rfl (by omega) (by decide) dX12_image_123 rfl ?_
    refine g_iast' C (hR33) (j := 10) rfl (by omega) (by decide) dX12_image_124 (pc' := 125) rfl (fun h106 e107 o108 => ?_)
    have hR33 : h106 (m + 14) = some (cI D 12 (upd (upd (upd (upd (upd (upd (upd (upd (upd (upd (upd (gB σ 33) (0) (gB σ 14 (0))) (1) (gB σ 14 (1))) (2) (gB σ 14 (2))) (3) (gB σ 14 (3))) (4) (gB σ 14 (4))) (5) (gB σ 14 (5))) (6) (gB σ 14 (6))) (7) (gB σ 14 (7))) (8) (gB σ 14 (8))) (9) (gB σ 14 (9))) (10) (gB σ 14 (10)))) := e107
    have hMo : h106 (m) = some (.inr (12, [.int (nI (gN σ 0)), .int (nI (gN σ 1)), .ref (m + 1), .int (nI (gN σ 3)), .int (nI (gN σ 4)), .int (gI σ 5), .int (nI (gN σ 6)), .ref (m + 2), .int (nI (gN σ 8)), .ref (m + 3), .ref (m + 4), .ref (m + 5), .ref (m + 6), .int (nI (gN σ 13)), .ref (m + 7), .ref (m + 8), .int (nI (gN σ 16)), .ref (m + 9), .long (s18), .int (s19), .int (s20), .ref (m + 10), .ref (m + 11), .int (s23), .int (s24), .int (1), .int (nI (gN σ 1)), .int (gI σ 5), .int (nI (gN σ 6)), .int (nI (gN σ 8)), .int (nI (gN σ 13)), .ref (m + 12), .ref (m + 13), .ref (m + 14), .ref (m + 15), .long (s35)])) := (o108 _ (by omega)).trans hMo
    have hR2 : h106 (m + 1) = some (cI D 9 (tnS σ)) := (o108 _ (by omega)).trans hR2
    have hR7 : h106 (m + 2) = some (cI D 5 (gB σ 7)) := (o108 _ (by omega)).trans hR7
    have hR9 : h106 (m + 3) = some (cI D 4 (kdS σ)) := (o108 _ (by omega)).trans hR9
    have hR10 : h106 (m + 4) = some (cI D 4 (gB σ 10)) := (o108 _ (by omega)).trans hR10
    have hR11 : h106 (m + 5) = some (cI D 4 (gB σ 11)) := (o108 _ (by omega)).trans hR11
    have hR12 : h106 (m + 6) = some (cI D 4 (gB σ 12)) := (o108 _ (by omega)).trans hR12
    have hR14 : h106 (m + 7) = some (cI D 12 (gB σ 14)) := (o108 _ (by omega)).trans hR14
    have hR15 : h106 (m + 8) = some (cI D 12 (gB σ 15)) := (o108 _ (by omega)).trans hR15
    have hR17 : h106 (m + 9) = some (cB D 16 (gB σ 17)) := (o108 _ (by omega)).trans hR17
    have hR21 : h106 (m + 10) = some (cI D 5 (f21)) := (o108 _ (by omega)).trans hR21
    have hR22 : h106 (m + 11) = some (cI D 5 (f22)) := (o108 _ (by omega)).trans hR22
    have hR31 : h106 (m + 12) = some (cI D 5 (upd (upd (upd (upd (upd (gB σ 31) (0) (gB σ 7 (0))) (1) (gB σ 7 (1))) (2) (gB σ 7 (2))) (3) (gB σ 7 (3))) (4) (gB σ 7 (4)))) := (o108 _ (by omega)).trans hR31
    have hR32 : h106 (m + 13) = some (cI D 4 (upd (upd (upd (upd (gB σ 32) (0) (gB σ 12 (0))) (1) (gB σ 12 (1))) (2) (gB σ 12 (2))) (3) (gB σ 12 (3)))) := (o108 _ (by omega)).trans hR32
    have hR34 : h106 (m + 15) = some (cI D 12 (upd (upd (upd (upd (upd (upd (upd (upd (upd (upd (gB σ 34) (0) (gB σ 15 (0))) (1) (gB σ 15 (1))) (2) (gB σ 15 (2))) (3) (gB σ 15 (3))) (4) (gB σ 15 (4))) (5) (gB σ 15 (5))) (6) (gB σ 15 (6))) (7) (gB σ 15 (7))) (8) (gB σ 15 (8))) (9) (gB σ 15 (9)))) := (o108 _ (by omega)).trans hR34
    have hO : ∀ q, (q < m ∨ m + 16 ≤ q) → h106 q = h q := fun q hq => (o108 q (by omega)).trans (hO q hq)
    refine g_aload_n C 1 dX12_image_125 rfl rfl rfl ?_
    refine gf_12_53 C (hMo) (v := .ref (m + 15)) rfl dX12_image_126 rfl ?_
    refine g_iload_n C 0 dX12_image_129 rfl rfl rfl ?_
    refine g_aload_n C 1 dX12_image_130 rfl rfl rfl ?_
    refine gf_12_31 C (hMo) (v := .ref (m + 8)) rfl dX12_image_131 rfl ?_
    refine g_iload_n C 0 dX12_image_134 rfl rfl rfl ?_
    refine g_iald' C (hR15) (j := 10) rfl (by omega) (by decide) dX12_image_135 rfl ?_
    refine g_iast' C (hR34) (j := 10) rfl (by omega) (by decide) dX12_image_136 (pc' := 137) rfl (fun h109 e110 o111 => ?_)
    have hR34 : h109 (m + 15) = some (cI D 12 (upd (upd (upd (upd (upd (upd (upd (upd (upd (upd (upd (gB σ 34) (0) (gB σ 15 (0))) (1) (gB σ 15 (1))) (2) (gB σ 15 (2))) (3) (gB σ 15 (3))) (4) (gB σ 15 (4))) (5) (gB σ 15 (5))) (6) (gB σ 15 (6))) (7) (gB σ 15 (7))) (8) (gB σ 15 (8))) (9) (gB σ 15 (9))) (10) (gB σ 15 (10)))) := e110
    have hMo : h109 (m) = some (.inr (12, [.int (nI (gN σ 0)), .int (nI (gN σ 1)), .ref (m + 1), .int (nI (gN σ 3)), .int (nI (gN σ 4)), .int (gI σ 5), .int (nI (gN σ 6)), .ref (m + 2), .int (nI (gN σ 8)), .ref (m + 3), .ref (m + 4), .ref (m + 5), .ref (m + 6), .int (nI (gN σ 13)), .ref (m + 7), .ref (m + 8), .int (nI (gN σ 16)), .ref (m + 9), .long (s18), .int (s19), .int (s20), .ref (m + 10), .ref (m + 11), .int (s23), .int (s24), .int (1), .int (nI (gN σ 1)), .int (gI σ 5), .int (nI (gN σ 6)), .int (nI (gN σ 8)), .int (nI (gN σ 13)), .ref (m + 12), .ref (m + 13), .ref (m + 14), .ref (m + 15), .long (s35)])) := (o111 _ (by omega)).trans hMo
    have hR2 : h109 (m + 1) = some (cI D 9 (tnS σ)) := (o111 _ (by omega)).trans hR2
    have hR7 : h109 (m + 2) = some (cI D 5 (gB σ 7)) := (o111 _ (by omega)).trans hR7
    have hR9 : h109 (m + 3) = some (cI D 4 (kdS σ)) := (o111 _ (by omega)).trans hR9
    have hR10 : h109 (m + 4) = some (cI D 4 (gB σ 10)) := (o111 _ (by omega)).trans hR10
    have hR11 : h109 (m + 5) = some (cI D 4 (gB σ 11)) := (o111 _ (by omega)).trans hR11
    have hR12 : h109 (m + 6) = some (cI D 4 (gB σ 12)) := (o111 _ (by omega)).trans hR12
    have hR14 : h109 (m + 7) = some (cI D 12 (gB σ 14)) := (o111 _ (by omega)).trans hR14
    have hR15 : h109 (m + 8) = some (cI D 12 (gB σ 15)) := (o111 _ (by omega)).trans hR15
    have hR17 : h109 (m + 9) = some (cB D 16 (gB σ 17)) := (o111 _ (by omega)).trans hR17
    have hR21 : h109 (m + 10) = some (cI D 5 (f21)) := (o111 _ (by omega)).trans hR21
    have hR22 : h109 (m + 11) = some (cI D 5 (f22)) := (o111 _ (by omega)).trans hR22
    have hR31 : h109 (m + 12) = some (cI D 5 (upd (upd (upd (upd (upd (gB σ 31) (0) (gB σ 7 (0))) (1) (gB σ 7 (1))) (2) (gB σ 7 (2))) (3) (gB σ 7 (3))) (4) (gB σ 7 (4)))) := (o111 _ (by omega)).trans hR31
    have hR32 : h109 (m + 13) = some (cI D 4 (upd (upd (upd (upd (gB σ 32) (0) (gB σ 12 (0))) (1) (gB σ 12 (1))) (2) (gB σ 12 (2))) (3) (gB σ 12 (3)))) := (o111 _ (by omega)).trans hR32
    have hR33 : h109 (m + 14) = some (cI D 12 (upd (upd (upd (upd (upd (upd (upd (upd (upd (upd (upd (gB σ 33) (0) (gB σ 14 (0))) (1) (gB σ 14 (1))) (2) (gB σ 14 (2))) (3) (gB σ 14 (3))) (4) (gB σ 14 (4))) (5) (gB σ 14 (5))) (6) (gB σ 14 (6))) (7) (gB σ 14 (7))) (8) (gB σ 14 (8))) (9) (gB σ 14 (9))) (10) (gB σ 14 (10)))) := (o111 _ (by omega)).trans hR33
    have hO : ∀ q, (q < m ∨ m + 16 ≤ q) → h109 q = h q := fun q hq => (o111 q (by omega)).trans (hO q hq)
    refine g_iinc C (v := 11) 0 ([(1, .int (11)), (0, .ref (m))]) dX12_image_137 rfl (by decide) (by decide) rfl rfl ?_
    refine g_goto C dX12_image_140 (tgt := 107) (by decide) ?_
    refine g_iload_n C 0 dX12_image_107 rfl rfl rfl ?_
    refine g_bipush C (v := 12) dX12_image_108 (by decide) rfl ?_
    refine g_icmp_ge C dX12_image_110 (tgt := 143) (by decide) (pc' := 113) rfl (fun c110 => absurd c110 (by decide)) (fun _ => ?_)
    refine g_aload_n C 1 dX12_image_113 rfl rfl rfl ?_
    refine gf_12_50 C (hMo) (v := .ref (m + 14)) rfl dX12_image_114 rfl ?_
    refine g_iload_n C 0 dX12_image_117 rfl rfl rfl ?_
    refine g_aload_n C 1 dX12_image_118 rfl rfl rfl ?_
    refine gf_12_28 C (hMo) (v := .ref (m + 7)) rfl dX12_image_119 rfl ?_
    refine g_iload_n C 0 dX12_image_122 rfl rfl rfl ?_
    refine g_iald' C (hR14) (j := 11) rfl (by omega) (by decide) dX12_image_123 rfl ?_
    refine g_iast' C (hR33) (j := 11) rfl (by omega) (by decide) dX12_image_124 (pc' := 125) rfl (fun h112 e113 o114 => ?_)
    have hR33 : h112 (m + 14) = some (cI D 12 (upd (upd (upd (upd (upd (upd (upd (upd (upd (upd (upd (upd (gB σ 33) (0) (gB σ 14 (0))) (1) (gB σ 14 (1))) (2) (gB σ 14 (2))) (3) (gB σ 14 (3))) (4) (gB σ 14 (4))) (5) (gB σ 14 (5))) (6) (gB σ 14 (6))) (7) (gB σ 14 (7))) (8) (gB σ 14 (8))) (9) (gB σ 14 (9))) (10) (gB σ 14 (10))) (11) (gB σ 14 (11)))) := e113
    have hMo : h112 (m) = some (.inr (12, [.int (nI (gN σ 0)), .int (nI (gN σ 1)), .ref (m + 1), .int (nI (gN σ 3)), .int (nI (gN σ 4)), .int (gI σ 5), .int (nI (gN σ 6)), .ref (m + 2), .int (nI (gN σ 8)), .ref (m + 3), .ref (m + 4), .ref (m + 5), .ref (m + 6), .int (nI (gN σ 13)), .ref (m + 7), .ref (m + 8), .int (nI (gN σ 16)), .ref (m + 9), .long (s18), .int (s19), .int (s20), .ref (m + 10), .ref (m + 11), .int (s23), .int (s24), .int (1), .int (nI (gN σ 1)), .int (gI σ 5), .int (nI (gN σ 6)), .int (nI (gN σ 8)), .int (nI (gN σ 13)), .ref (m + 12), .ref (m + 13), .ref (m + 14), .ref (m + 15), .long (s35)])) := (o114 _ (by omega)).trans hMo
    have hR2 : h112 (m + 1) = some (cI D 9 (tnS σ)) := (o114 _ (by omega)).trans hR2
    have hR7 : h112 (m + 2) = some (cI D 5 (gB σ 7)) := (o114 _ (by omega)).trans hR7
    have hR9 : h112 (m + 3) = some (cI D 4 (kdS σ)) := (o114 _ (by omega)).trans hR9
    have hR10 : h112 (m + 4) = some (cI D 4 (gB σ 10)) := (o114 _ (by omega)).trans hR10
    have hR11 : h112 (m + 5) = some (cI D 4 (gB σ 11)) := (o114 _ (by omega)).trans hR11
    have hR12 : h112 (m + 6) = some (cI D 4 (gB σ 12)) := (o114 _ (by omega)).trans hR12
    have hR14 : h112 (m + 7) = some (cI D 12 (gB σ 14)) := (o114 _ (by omega)).trans hR14
    have hR15 : h112 (m + 8) = some (cI D 12 (gB σ 15)) := (o114 _ (by omega)).trans hR15
    have hR17 : h112 (m + 9) = some (cB D 16 (gB σ 17)) := (o114 _ (by omega)).trans hR17
    have hR21 : h112 (m + 10) = some (cI D 5 (f21)) := (o114 _ (by omega)).trans hR21
    have hR22 : h112 (m + 11) = some (cI D 5 (f22)) := (o114 _ (by omega)).trans hR22
    have hR31 : h112 (m + 12) = some (cI D 5 (upd (upd (upd (upd (upd (gB σ 31) (0) (gB σ 7 (0))) (1) (gB σ 7 (1))) (2) (gB σ 7 (2))) (3) (gB σ 7 (3))) (4) (gB σ 7 (4)))) := (o114 _ (by omega)).trans hR31
    have hR32 : h112 (m + 13) = some (cI D 4 (upd (upd (upd (upd (gB σ 32) (0) (gB σ 12 (0))) (1) (gB σ 12 (1))) (2) (gB σ 12 (2))) (3) (gB σ 12 (3)))) := (o114 _ (by omega)).trans hR32
    have hR34 : h112 (m + 15) = some (cI D 12 (upd (upd (upd (upd (upd (upd (upd (upd (upd (upd (upd (gB σ 34) (0) (gB σ 15 (0))) (1) (gB σ 15 (1))) (2) (gB σ 15 (2))) (3) (gB σ 15 (3))) (4) (gB σ 15 (4))) (5) (gB σ 15 (5))) (6) (gB σ 15 (6))) (7) (gB σ 15 (7))) (8) (gB σ 15 (8))) (9) (gB σ 15 (9))) (10) (gB σ 15 (10)))) := (o114 _ (by omega)).trans hR34
    have hO : ∀ q, (q < m ∨ m + 16 ≤ q) → h112 q = h q := fun q hq => (o114 q (by omega)).trans (hO q hq)
    refine g_aload_n C 1 dX12_image_125 rfl rfl rfl ?_
    refine gf_12_53 C (hMo) (v := .ref (m + 15)) rfl dX12_image_126 rfl ?_
    refine g_iload_n C 0 dX12_image_129 rfl rfl rfl ?_
    refine g_aload_n C 1 dX12_image_130 rfl rfl rfl ?_
    refine gf_12_31 C (hMo) (v := .ref (m + 8)) rfl dX12_image_131 rfl ?_
    refine g_iload_n C 0 dX12_image_134 rfl rfl rfl ?_
    refine g_iald' C (hR15) (j := 11) rfl (by omega) (by decide) dX12_image_135 rfl ?_
    refine g_iast' C (hR34) (j := 11) rfl (by omega) (by decide) dX12_image_136 (pc' := 137) rfl (fun h115 e116 o117 => ?_)
    have hR34 : h115 (m + 15) = some (cI D 12 (upd (upd (upd (upd (upd (upd (upd (upd (upd (upd (upd (upd (gB σ 34) (0) (gB σ 15 (0))) (1) (gB σ 15 (1))) (2) (gB σ 15 (2))) (3) (gB σ 15 (3))) (4) (gB σ 15 (4))) (5) (gB σ 15 (5))) (6) (gB σ 15 (6))) (7) (gB σ 15 (7))) (8) (gB σ 15 (8))) (9) (gB σ 15 (9))) (10) (gB σ 15 (10))) (11) (gB σ 15 (11)))) := e116
    have hMo : h115 (m) = some (.inr (12, [.int (nI (gN σ 0)), .int (nI (gN σ 1)), .ref (m + 1), .int (nI (gN σ 3)), .int (nI (gN σ 4)), .int (gI σ 5), .int (nI (gN σ 6)), .ref (m + 2), .int (nI (gN σ 8)), .ref (m + 3), .ref (m + 4), .ref (m + 5), .ref (m + 6), .int (nI (gN σ 13)), .ref (m + 7), .ref (m + 8), .int (nI (gN σ 16)), .ref (m + 9), .long (s18), .int (s19), .int (s20), .ref (m + 10), .ref (m + 11), .int (s23), .int (s24), .int (1), .int (nI (gN σ 1)), .int (gI σ 5), .int (nI (gN σ 6)), .int (nI (gN σ 8)), .int (nI (gN σ 13)), .ref (m + 12), .ref (m + 13), .ref (m + 14), .ref (m + 15), .long (s35)])) := (o117 _ (by omega)).trans hMo
    have hR2 : h115 (m + 1) = some (cI D 9 (tnS σ)) := (o117 _ (by omega)).trans hR2
    have hR7 : h115 (m + 2) = some (cI D 5 (gB σ 7)) := (o117 _ (by omega)).trans hR7
    have hR9 : h115 (m + 3) = some (cI D 4 (kdS σ)) := (o117 _ (by omega)).trans hR9
    have hR10 : h115 (m + 4) = some (cI D 4 (gB σ 10)) := (o117 _ (by omega)).trans hR10
    have hR11 : h115 (m + 5) = some (cI D 4 (gB σ 11)) := (o117 _ (by omega)).trans hR11
    have hR12 : h115 (m + 6) = some (cI D 4 (gB σ 12)) := (o117 _ (by omega)).trans hR12
    have hR14 : h115 (m + 7) = some (cI D 12 (gB σ 14)) := (o117 _ (by omega)).trans hR14
    have hR15 : h115 (m + 8) = some (cI D 12 (gB σ 15)) := (o117 _ (by omega)).trans hR15
    have hR17 : h115 (m + 9) = some (cB D 16 (gB σ 17)) := (o117 _ (by omega)).trans hR17
    have hR21 : h115 (m + 10) = some (cI D 5 (f21)) := (o117 _ (by omega)).trans hR21
    have hR22 : h115 (m + 11) = some (cI D 5 (f22)) := (o117 _ (by omega)).trans hR22
    have hR31 : h115 (m + 12) = some (cI D 5 (upd (upd (upd (upd (upd (gB σ 31) (0) (gB σ 7 (0))) (1) (gB σ 7 (1))) (2) (gB σ 7 (2))) (3) (gB σ 7 (3))) (4) (gB σ 7 (4)))) := (o117 _ (by omega)).trans hR31
    have hR32 : h115 (m + 13) = some (cI D 4 (upd (upd (upd (upd (gB σ 32) (0) (gB σ 12 (0))) (1) (gB σ 12 (1))) (2) (gB σ 12 (2))) (3) (gB σ 12 (3)))) := (o117 _ (by omega)).trans hR32
    have hR33 : h115 (m + 14) = some (cI D 12 (upd (upd (upd (upd (upd (upd (upd (upd (upd (upd (upd (upd (gB σ 33) (0) (gB σ 14 (0))) (1) (gB σ 14 (1))) (2) (gB σ 14 (2))) (3) (gB σ 14 (3))) (4) (gB σ 14 (4))) (5) (gB σ 14 (5))) (6) (gB σ 14 (6))) (7) (gB σ 14 (7))) (8) (gB σ 14 (8))) (9) (gB σ 14 (9))) (10) (gB σ 14 (10))) (11) (gB σ 14 (11)))) := (o117 _ (by omega)).trans hR33
    have hO : ∀ q, (q < m ∨ m + 16 ≤ q) → h115 q = h q := fun q hq => (o117 q (by omega)).trans (hO q hq)
    refine g_iinc C (v := 12) 0 ([(1, .int (12)), (0, .ref (m))]) dX12_image_137 rfl (by decide) (by decide) rfl rfl ?_
    refine g_goto C dX12_image_140 (tgt := 107) (by decide) ?_
    refine g_iload_n C 0 dX12_image_107 rfl rfl rfl ?_
    refine g_bipush C (v := 12) dX12_image_108 (by decide) rfl ?_
    refine g_icmp_ge C dX12_image_110 (tgt := 143) (by decide) (pc' := 113) rfl (fun _ => ?_) (fun c110 => absurd (by decide) c110)
    refine g_aload_n C 1 dX12_image_143 rfl rfl rfl ?_
    refine gf_12_89 C (hMo) (v := .int (gI σ 5)) rfl dX12_image_144 rfl ?_
    refine g_canon C (hR31) (g := gB σ 7) (lt5d rfl rfl rfl rfl rfl) (fun h118 e119 o120 => ?_)
    have hR31 : h118 (m + 12) = some (cI D 5 (gB σ 7)) := e119
    have hMo : h118 (m) = some (.inr (12, [.int (nI (gN σ 0)), .int (nI (gN σ 1)), .ref (m + 1), .int (nI (gN σ 3)), .int (nI (gN σ 4)), .int (gI σ 5), .int (nI (gN σ 6)), .ref (m + 2), .int (nI (gN σ 8)), .ref (m + 3), .ref (m + 4), .ref (m + 5), .ref (m + 6), .int (nI (gN σ 13)), .ref (m + 7), .ref (m + 8), .int (nI (gN σ 16)), .ref (m + 9), .long (s18), .int (s19), .int (s20), .ref (m + 10), .ref (m + 11), .int (s23), .int (s24), .int (1), .int (nI (gN σ 1)), .int (gI σ 5), .int (nI (gN σ 6)), .int (nI (gN σ 8)), .int (nI (gN σ 13)), .ref (m + 12), .ref (m + 13), .ref (m + 14), .ref (m + 15), .long (s35)])) := (o120 _ (by omega)).trans hMo
    have hR2 : h118 (m + 1) = some (cI D 9 (tnS σ)) := (o120 _ (by omega)).trans hR2
    have hR7 : h118 (m + 2) = some (cI D 5 (gB σ 7)) := (o120 _ (by omega)).trans hR7
    have hR9 : h118 (m + 3) = some (cI D 4 (kdS σ)) := (o120 _ (by omega)).trans hR9
    have hR10 : h118 (m + 4) = some (cI D 4 (gB σ 10)) := (o120 _ (by omega)).trans hR10
    have hR11 : h118 (m + 5) = some (cI D 4 (gB σ 11)) := (o120 _ (by omega)).trans hR11
    have hR12 : h118 (m + 6) = some (cI D 4 (gB σ 12)) := (o120 _ (by omega)).trans hR12
    have hR14 : h118 (m + 7) = some (cI D 12 (gB σ 14)) := (o120 _ (by omega)).trans hR14
    have hR15 : h118 (m + 8) = some (cI D 12 (gB σ 15)) := (o120 _ (by omega)).trans hR15
    have hR17 : h118 (m + 9) = some (cB D 16 (gB σ 17)) := (o120 _ (by omega)).trans hR17
    have hR21 : h118 (m + 10) = some (cI D 5 (f21)) := (o120 _ (by omega)).trans hR21
    have hR22 : h118 (m + 11) = some (cI D 5 (f22)) := (o120 _ (by omega)).trans hR22
    have hR32 : h118 (m + 13) = some (cI D 4 (upd (upd (upd (upd (gB σ 32) (0) (gB σ 12 (0))) (1) (gB σ 12 (1))) (2) (gB σ 12 (2))) (3) (gB σ 12 (3)))) := (o120 _ (by omega)).trans hR32
    have hR33 : h118 (m + 14) = some (cI D 12 (upd (upd (upd (upd (upd (upd (upd (upd (upd (upd (upd (upd (gB σ 33) (0) (gB σ 14 (0))) (1) (gB σ 14 (1))) (2) (gB σ 14 (2))) (3) (gB σ 14 (3))) (4) (gB σ 14 (4))) (5) (gB σ 14 (5))) (6) (gB σ 14 (6))) (7) (gB σ 14 (7))) (8) (gB σ 14 (8))) (9) (gB σ 14 (9))) (10) (gB σ 14 (10))) (11) (gB σ 14 (11)))) := (o120 _ (by omega)).trans hR33
    have hR34 : h118 (m + 15) = some (cI D 12 (upd (upd (upd (upd (upd (upd (upd (upd (upd (upd (upd (upd (gB σ 34) (0) (gB σ 15 (0))) (1) (gB σ 15 (1))) (2) (gB σ 15 (2))) (3) (gB σ 15 (3))) (4) (gB σ 15 (4))) (5) (gB σ 15 (5))) (6) (gB σ 15 (6))) (7) (gB σ 15 (7))) (8) (gB σ 15 (8))) (9) (gB σ 15 (9))) (10) (gB σ 15 (10))) (11) (gB σ 15 (11)))) := (o120 _ (by omega)).trans hR34
    have hO : ∀ q, (q < m ∨ m + 16 ≤ q) → h118 q = h q := fun q hq => (o120 q (by omega)).trans (hO q hq)
    refine g_canon C (hR32) (g := gB σ 12) (lt4d rfl rfl rfl rfl) (fun h121 e122 o123 => ?_)
    have hR32 : h121 (m + 13) = some (cI D 4 (gB σ 12)) := e122
    have hMo : h121 (m) = some (.inr (12, [.int (nI (gN σ 0)), .int (nI (gN σ 1)), .ref (m + 1), .int (nI (gN σ 3)), .int (nI (gN σ 4)), .int (gI σ 5), .int (nI (gN σ 6)), .ref (m + 2), .int (nI (gN σ 8)), .ref (m + 3), .ref (m + 4), .ref (m + 5), .ref (m + 6), .int (nI (gN σ 13)), .ref (m + 7), .ref (m + 8), .int (nI (gN σ 16)), .ref (m + 9), .long (s18), .int (s19), .int (s20), .ref (m + 10), .ref (m + 11), .int (s23), .int (s24), .int (1), .int (nI (gN σ 1)), .int (gI σ 5), .int (nI (gN σ 6)), .int (nI (gN σ 8)), .int (nI (gN σ 13)), .ref (m + 12), .ref (m + 13), .ref (m + 14), .ref (m + 15), .long (s35)])) := (o123 _ (by omega)).trans hMo
    have hR2 : h121 (m + 1) = some (cI D 9 (tnS σ)) := (o123 _ (by omega)).trans hR2
    have hR7 : h121 (m + 2) = some (cI D 5 (gB σ 7)) := (o123 _ (by omega)).trans hR7
    have hR9 : h121 (m + 3) = some (cI D 4 (kdS σ)) := (o123 _ (by omega)).trans hR9
    have hR10 : h121 (m + 4) = some (cI D 4 (gB σ 10)) := (o123 _ (by omega)).trans hR10
    have hR11 : h121 (m + 5) = some (cI D 4 (gB σ 11)) := (o123 _ (by omega)).trans hR11
    have hR12 : h121 (m + 6) = some (cI D 4 (gB σ 12)) := (o123 _ (by omega)).trans hR12
    have hR14 : h121 (m + 7) = some (cI D 12 (gB σ 14)) := (o123 _ (by omega)).trans hR14
    have hR15 : h121 (m + 8) = some (cI D 12 (gB σ 15)) := (o123 _ (by omega)).trans hR15
    have hR17 : h121 (m + 9) = some (cB D 16 (gB σ 17)) := (o123 _ (by omega)).trans hR17
    have hR21 : h121 (m + 10) = some (cI D 5 (f21)) := (o123 _ (by omega)).trans hR21
    have hR22 : h121 (m + 11) = some (cI D 5 (f22)) := (o123 _ (by omega)).trans hR22
    have hR31 : h121 (m + 12) = some (cI D 5 (gB σ 7)) := (o123 _ (by omega)).trans hR31
    have hR33 : h121 (m + 14) = some (cI D 12 (upd (upd (upd (upd (upd (upd (upd (upd (upd (upd (upd (upd (gB σ 33) (0) (gB σ 14 (0))) (1) (gB σ 14 (1))) (2) (gB σ 14 (2))) (3) (gB σ 14 (3))) (4) (gB σ 14 (4))) (5) (gB σ 14 (5))) (6) (gB σ 14 (6))) (7) (gB σ 14 (7))) (8) (gB σ 14 (8))) (9) (gB σ 14 (9))) (10) (gB σ 14 (10))) (11) (gB σ 14 (11)))) := (o123 _ (by omega)).trans hR33
    have hR34 : h121 (m + 15) = some (cI D 12 (upd (upd (upd (upd (upd (upd (upd (upd (upd (upd (upd (upd (gB σ 34) (0) (gB σ 15 (0))) (1) (gB σ 15 (1))) (2) (gB σ 15 (2))) (3) (gB σ 15 (3))) (4) (gB σ 15 (4))) (5) (gB σ 15 (5))) (6) (gB σ 15 (6))) (7) (gB σ 15 (7))) (8) (gB σ 15 (8))) (9) (gB σ 15 (9))) (10) (gB σ 15 (10))) (11) (gB σ 15 (11)))) := (o123 _ (by omega)).trans hR34
    have hO : ∀ q, (q < m ∨ m + 16 ≤ q) → h121 q = h q := fun q hq => (o123 q (by omega)).trans (hO q hq)
    refine g_canon C (hR33) (g := gB σ 14) (lt12d rfl rfl rfl rfl rfl rfl rfl rfl rfl rfl rfl rfl) (fun h124 e125 o126 => ?_)
    have hR33 : h124 (m + 14) = some (cI D 12 (gB σ 14)) := e125
    have hMo : h124 (m) = some (.inr (12, [.int (nI (gN σ 0)), .int (nI (gN σ 1)), .ref (m + 1), .int (nI (gN σ 3)), .int (nI (gN σ 4)), .int (gI σ 5), .int (nI (gN σ 6)), .ref (m + 2), .int (nI (gN σ 8)), .ref (m + 3), .ref (m + 4), .ref (m + 5), .ref (m + 6), .int (nI (gN σ 13)), .ref (m + 7), .ref (m + 8), .int (nI (gN σ 16)), .ref (m + 9), .long (s18), .int (s19), .int (s20), .ref (m + 10), .ref (m + 11), .int (s23), .int (s24), .int (1), .int (nI (gN σ 1)), .int (gI σ 5), .int (nI (gN σ 6)), .int (nI (gN σ 8)), .int (nI (gN σ 13)), .ref (m + 12), .ref (m + 13), .ref (m + 14), .ref (m + 15), .long (s35)])) := (o126 _ (by omega)).trans hMo
    have hR2 : h124 (m + 1) = some (cI D 9 (tnS σ)) := (o126 _ (by omega)).trans hR2
    have hR7 : h124 (m + 2) = some (cI D 5 (gB σ 7)) := (o126 _ (by omega)).trans hR7
    have hR9 : h124 (m + 3) = some (cI D 4 (kdS σ)) := (o126 _ (by omega)).trans hR9
    have hR10 : h124 (m + 4) = some (cI D 4 (gB σ 10)) := (o126 _ (by omega)).trans hR10
    have hR11 : h124 (m + 5) = some (cI D 4 (gB σ 11)) := (o126 _ (by omega)).trans hR11
    have hR12 : h124 (m + 6) = some (cI D 4 (gB σ 12)) := (o126 _ (by omega)).trans hR12
    have hR14 : h124 (m + 7) = some (cI D 12 (gB σ 14)) := (o126 _ (by omega)).trans hR14
    have hR15 : h124 (m + 8) = some (cI D 12 (gB σ 15)) := (o126 _ (by omega)).trans hR15
    have hR17 : h124 (m + 9) = some (cB D 16 (gB σ 17)) := (o126 _ (by omega)).trans hR17
    have hR21 : h124 (m + 10) = some (cI D 5 (f21)) := (o126 _ (by omega)).trans hR21
    have hR22 : h124 (m + 11) = some (cI D 5 (f22)) := (o126 _ (by omega)).trans hR22
    have hR31 : h124 (m + 12) = some (cI D 5 (gB σ 7)) := (o126 _ (by omega)).trans hR31
    have hR32 : h124 (m + 13) = some (cI D 4 (gB σ 12)) := (o126 _ (by omega)).trans hR32
    have hR34 : h124 (m + 15) = some (cI D 12 (upd (upd (upd (upd (upd (upd (upd (upd (upd (upd (upd (upd (gB σ 34) (0) (gB σ 15 (0))) (1) (gB σ 15 (1))) (2) (gB σ 15 (2))) (3) (gB σ 15 (3))) (4) (gB σ 15 (4))) (5) (gB σ 15 (5))) (6) (gB σ 15 (6))) (7) (gB σ 15 (7))) (8) (gB σ 15 (8))) (9) (gB σ 15 (9))) (10) (gB σ 15 (10))) (11) (gB σ 15 (11)))) := (o126 _ (by omega)).trans hR34
    have hO : ∀ q, (q < m ∨ m + 16 ≤ q) → h124 q = h q := fun q hq => (o126 q (by omega)).trans (hO q hq)
    refine g_canon C (hR34) (g := gB σ 15) (lt12d rfl rfl rfl rfl rfl rfl rfl rfl rfl rfl rfl rfl) (fun h127 e128 o129 => ?_)
    have hR34 : h127 (m + 15) = some (cI D 12 (gB σ 15)) := e128
    have hMo : h127 (m) = some (.inr (12, [.int (nI (gN σ 0)), .int (nI (gN σ 1)), .ref (m + 1), .int (nI (gN σ 3)), .int (nI (gN σ 4)), .int (gI σ 5), .int (nI (gN σ 6)), .ref (m + 2), .int (nI (gN σ 8)), .ref (m + 3), .ref (m + 4), .ref (m + 5), .ref (m + 6), .int (nI (gN σ 13)), .ref (m + 7), .ref (m + 8), .int (nI (gN σ 16)), .ref (m + 9), .long (s18), .int (s19), .int (s20), .ref (m + 10), .ref (m + 11), .int (s23), .int (s24), .int (1), .int (nI (gN σ 1)), .int (gI σ 5), .int (nI (gN σ 6)), .int (nI (gN σ 8)), .int (nI (gN σ 13)), .ref (m + 12), .ref (m + 13), .ref (m + 14), .ref (m + 15), .long (s35)])) := (o129 _ (by omega)).trans hMo
    have hR2 : h127 (m + 1) = some (cI D 9 (tnS σ)) := (o129 _ (by omega)).trans hR2
    have hR7 : h127 (m + 2) = some (cI D 5 (gB σ 7)) := (o129 _ (by omega)).trans hR7
    have hR9 : h127 (m + 3) = some (cI D 4 (kdS σ)) := (o129 _ (by omega)).trans hR9
    have hR10 : h127 (m + 4) = some (cI D 4 (gB σ 10)) := (o129 _ (by omega)).trans hR10
    have hR11 : h127 (m + 5) = some (cI D 4 (gB σ 11)) := (o129 _ (by omega)).trans hR11
    have hR12 : h127 (m + 6) = some (cI D 4 (gB σ 12)) := (o129 _ (by omega)).trans hR12
    have hR14 : h127 (m + 7) = some (cI D 12 (gB σ 14)) := (o129 _ (by omega)).trans hR14
    have hR15 : h127 (m + 8) = some (cI D 12 (gB σ 15)) := (o129 _ (by omega)).trans hR15
    have hR17 : h127 (m + 9) = some (cB D 16 (gB σ 17)) := (o129 _ (by omega)).trans hR17
    have hR21 : h127 (m + 10) = some (cI D 5 (f21)) := (o129 _ (by omega)).trans hR21
    have hR22 : h127 (m + 11) = some (cI D 5 (f22)) := (o129 _ (by omega)).trans hR22
    have hR31 : h127 (m + 12) = some (cI D 5 (gB σ 7)) := (o129 _ (by omega)).trans hR31
    have hR32 : h127 (m + 13) = some (cI D 4 (gB σ 12)) := (o129 _ (by omega)).trans hR32
    have hR33 : h127 (m + 14) = some (cI D 12 (gB σ 14)) := (o129 _ (by omega)).trans hR33
    have hO : ∀ q, (q < m ∨ m + 16 ≤ q) → h127 q = h q := fun q hq => (o129 q (by omega)).trans (hO q hq)
    have hM : MdO h127 m (imN σ) (s18) (s19) (s20) (s23) (s24) (s35) := hMo
    have hR : MdR D h127 m (imN σ) (f21) (f22) := ⟨hR2, hR7, hR9, hR10, hR11, hR12, hR14, hR15, hR17, hR21, hR22, hR31, hR32, hR33, hR34⟩
    exact ret _ _ _ _ dX12_image_147 rfl (⟨by unfold mImage; rw [if_neg c4]; exact ⟨rfl, ⟨_, _, _, _, _, _, _, _, hM, hR⟩⟩, hO⟩)
  · intro c4
    replace c4 := (nI_eq (a := gN σ 0) (b := 0) (by omega) (by omega)).mp c4
    refine g_bipush C (v := -103) dX12_image_7 (by decide) rfl ?_
    exact ret _ _ _ _ dX12_image_9 rfl (⟨by unfold mImage; rw [if_pos c4]; exact ⟨rfl, ⟨_, _, _, _, _, _, _, _, hM, hR⟩⟩, fun _ _ => rfl⟩)
set_option maxHeartbeats 4000000 in
set_option maxRecDepth 100000 in
theorem k_X12_restore (l : Launch) (D : va_G) (b z : Nat) {h : qH} {m : Nat} {σ : sg} {s18 s35 : Int64} {s19 s20 s23 s24 : Int32} {f21 f22 : Nat → Int32} (hM : MdO h m σ s18 s19 s20 s23 s24 s35) (hR : MdR D h m σ f21 f22) (h25 : gN σ 25 ≤ 1) (h1 : gN σ 1 < 2 ^ 30) (h26 : gN σ 26 ≤ gN σ 1) : qMi l D b yX12_restore cX12_restore 2 .int 0 0 [.ref (m)] h z (fun r0 h' => (r0 = (mRestore σ).1 ∧ MdlAt D h' m (mRestore σ).2) ∧ ∀ q, (q < m ∨ m + 16 ≤ q) → h' q = h q) := by
  refine q_i (L := [(0, .ref (m))]) (own := RX12) (by decide) rfl (Nat.le_of_ble_eq_true rfl) rfl ?_
  intro X C ret
  have hO : ∀ q, (q < m ∨ m + 16 ≤ q) → h q = h q := fun _ _ => rfl
  refine g_aload_n C 0 dX12_restore_0 rfl rfl rfl ?_
  refine gf_12_212 C (hM) (v := .int (nI (gN σ 25))) rfl dX12_restore_1 rfl ?_
  refine g_if_eq C dX12_restore_4 (tgt := 18) (by decide) (pc' := 7) rfl ?_ ?_
  · intro c4
    replace c4 := (nI_eq (a := gN σ 25) (b := 0) (by omega) (by omega)).mp c4
    refine g_bipush C (v := -103) dX12_restore_18 (by decide) rfl ?_
    exact ret _ _ _ _ dX12_restore_20 rfl (⟨by unfold mRestore; rw [cIf_f (fun g => by have g1 := g.1; omega)]; exact ⟨rfl, ⟨_, _, _, _, _, _, _, _, hM, hR⟩⟩, fun _ _ => rfl⟩)
  · intro c4
    replace c4 := (not_congr (nI_eq (a := gN σ 25) (b := 0) (by omega) (by omega))).mp c4
    refine g_aload_n C 0 dX12_restore_7 rfl rfl rfl ?_
    refine gf_12_215 C (hM) (v := .int (nI (gN σ 26))) rfl dX12_restore_8 rfl ?_
    refine g_aload_n C 0 dX12_restore_11 rfl rfl rfl ?_
    refine gf_12_86 C (hM) (v := .int (nI (gN σ 1))) rfl dX12_restore_12 rfl ?_
    refine g_icmp_eq C dX12_restore_15 (tgt := 21) (by decide) (pc' := 18) rfl ?_ ?_
    · intro c15
      replace c15 := (nI_eq (a := gN σ 26) (b := gN σ 1) (by omega) (by omega)).mp c15
      have hMo : h (m) = some (.inr (12, [.int (nI (gN σ 0)), .int (nI (gN σ 1)), .ref (m + 1), .int (nI (gN σ 3)), .int (nI (gN σ 4)), .int (gI σ 5), .int (nI (gN σ 6)), .ref (m + 2), .int (nI (gN σ 8)), .ref (m + 3), .ref (m + 4), .ref (m + 5), .ref (m + 6), .int (nI (gN σ 13)), .ref (m + 7), .ref (m + 8), .int (nI (gN σ 16)), .ref (m + 9), .long (s18), .int (s19), .int (s20), .ref (m + 10), .ref (m + 11), .int (s23), .int (s24), .int (nI (gN σ 25)), .int (nI (gN σ 26)), .int (gI σ 27), .int (nI (gN σ 28)), .int (nI (gN σ 29)), .int (nI (gN σ 30)), .ref (m + 12), .ref (m + 13), .ref (m + 14), .ref (m + 15), .long (s35)])) := hM
      have hR2 : h (m + 1) = some (cI D 9 (tnS σ)) := hR.1
      have hR7 : h (m + 2) = some (cI D 5 (gB σ 7)) := hR.2.1
      have hR9 : h (m + 3) = some (cI D 4 (kdS σ)) := hR.2.2.1
      have hR10 : h (m + 4) = some (cI D 4 (gB σ 10)) := hR.2.2.2.1
      have hR11 : h (m + 5) = some (cI D 4 (gB σ 11)) := hR.2.2.2.2.1
      have hR12 : h (m + 6) = some (cI D 4 (gB σ 12)) := hR.2.2.2.2.2.1
      have hR14 : h (m + 7) = some (cI D 12 (gB σ 14)) := hR.2.2.2.2.2.2.1
      have hR15 : h (m + 8) = some (cI D 12 (gB σ 15)) := hR.2.2.2.2.2.2.2.1
      have hR17 : h (m + 9) = some (cB D 16 (gB σ 17)) := hR.2.2.2.2.2.2.2.2.1
      have hR21 : h (m + 10) = some (cI D 5 (f21)) := hR.2.2.2.2.2.2.2.2.2.1
      have hR22 : h (m + 11) = some (cI D 5 (f22)) := hR.2.2.2.2.2.2.2.2.2.2.1
      have hR31 : h (m + 12) = some (cI D 5 (gB σ 31)) := hR.2.2.2.2.2.2.2.2.2.2.2.1
      have hR32 : h (m + 13) = some (cI D 4 (gB σ 32)) := hR.2.2.2.2.2.2.2.2.2.2.2.2.1
      have hR33 : h (m + 14) = some (cI D 12 (gB σ 33)) := hR.2.2.2.2.2.2.2.2.2.2.2.2.2.1
      have hR34 : h (m + 15) = some (cI D 12 (gB σ 34)) := hR.2.2.2.2.2.2.2.2.2.2.2.2.2.2
      clear hM hR
      refine g_aload_n C 0 dX12_restore_21 rfl rfl rfl ?_
      refine g_aload_n C 0 dX12_restore_22 rfl rfl rfl ?_
      refine gf_12_218 C (hMo) (v := .int (gI σ 27)) rfl dX12_restore_23 rfl ?_
      refine pf_12_89 C (hMo) (v := .int (gI σ 27)) rfl rfl (Nat.le_of_ble_eq_true rfl) dX12_restore_26 (pc' := 29) rfl (fun h1 e2 o3 => ?_)
      have hMo : h1 (m) = some (.inr (12, [.int (nI (gN σ 0)), .int (nI (gN σ 1)), .ref (m + 1), .int (nI (gN σ 3)), .int (nI (gN σ 4)), .int (gI σ 27), .int (nI (gN σ 6)), .ref (m + 2), .int (nI (gN σ 8)), .ref (m + 3), .ref (m + 4), .ref (m + 5), .ref (m + 6), .int (nI (gN σ 13)), .ref (m + 7), .ref (m + 8), .int (nI (gN σ 16)), .ref (m + 9), .long (s18), .int (s19), .int (s20), .ref (m + 10), .ref (m + 11), .int (s23), .int (s24), .int (nI (gN σ 25)), .int (nI (gN σ 26)), .int (gI σ 27), .int (nI (gN σ 28)), .int (nI (gN σ 29)), .int (nI (gN σ 30)), .ref (m + 12), .ref (m + 13), .ref (m + 14), .ref (m + 15), .long (s35)])) := e2
      have hR2 : h1 (m + 1) = some (cI D 9 (tnS σ)) := (o3 _ (by omega)).trans hR2
      have hR7 : h1 (m + 2) = some (cI D 5 (gB σ 7)) := (o3 _ (by omega)).trans hR7
      have hR9 : h1 (m + 3) = some (cI D 4 (kdS σ)) := (o3 _ (by omega)).trans hR9
      have hR10 : h1 (m + 4) = some (cI D 4 (gB σ 10)) := (o3 _ (by omega)).trans hR10
      have hR11 : h1 (m + 5) = some (cI D 4 (gB σ 11)) := (o3 _ (by omega)).trans hR11
      have hR12 : h1 (m + 6) = some (cI D 4 (gB σ 12)) := (o3 _ (by omega)).trans hR12
      have hR14 : h1 (m + 7) = some (cI D 12 (gB σ 14)) := (o3 _ (by omega)).trans hR14
      have hR15 : h1 (m + 8) = some (cI D 12 (gB σ 15)) := (o3 _ (by omega)).trans hR15
      have hR17 : h1 (m + 9) = some (cB D 16 (gB σ 17)) := (o3 _ (by omega)).trans hR17
      have hR21 : h1 (m + 10) = some (cI D 5 (f21)) := (o3 _ (by omega)).trans hR21
      have hR22 : h1 (m + 11) = some (cI D 5 (f22)) := (o3 _ (by omega)).trans hR22
      have hR31 : h1 (m + 12) = some (cI D 5 (gB σ 31)) := (o3 _ (by omega)).trans hR31
      have hR32 : h1 (m + 13) = some (cI D 4 (gB σ 32)) := (o3 _ (by omega)).trans hR32
      have hR33 : h1 (m + 14) = some (cI D 12 (gB σ 33)) := (o3 _ (by omega)).trans hR33
      have hR34 : h1 (m + 15) = some (cI D 12 (gB σ 34)) := (o3 _ (by omega)).trans hR34
      have hO : ∀ q, (q < m ∨ m + 16 ≤ q) → h1 q = h q := fun q hq => (o3 q (by omega)).trans (hO q hq)
      refine g_aload_n C 0 dX12_restore_29 rfl rfl rfl ?_
      refine g_aload_n C 0 dX12_restore_30 rfl rfl rfl ?_
      refine gf_12_221 C (hMo) (v := .int (nI (gN σ 28))) rfl dX12_restore_31 rfl ?_
      refine pf_12_92 C (hMo) (v := .int (nI (gN σ 28))) rfl rfl (Nat.le_of_ble_eq_true rfl) dX12_restore_34 (pc' := 37) rfl (fun h4 e5 o6 => ?_)
      have hMo : h4 (m) = some (.inr (12, [.int (nI (gN σ 0)), .int (nI (gN σ 1)), .ref (m + 1), .int (nI (gN σ 3)), .int (nI (gN σ 4)), .int (gI σ 27), .int (nI (gN σ 28)), .ref (m + 2), .int (nI (gN σ 8)), .ref (m + 3), .ref (m + 4), .ref (m + 5), .ref (m + 6), .int (nI (gN σ 13)), .ref (m + 7), .ref (m + 8), .int (nI (gN σ 16)), .ref (m + 9), .long (s18), .int (s19), .int (s20), .ref (m + 10), .ref (m + 11), .int (s23), .int (s24), .int (nI (gN σ 25)), .int (nI (gN σ 26)), .int (gI σ 27), .int (nI (gN σ 28)), .int (nI (gN σ 29)), .int (nI (gN σ 30)), .ref (m + 12), .ref (m + 13), .ref (m + 14), .ref (m + 15), .long (s35)])) := e5
      have hR2 : h4 (m + 1) = some (cI D 9 (tnS σ)) := (o6 _ (by omega)).trans hR2
      have hR7 : h4 (m + 2) = some (cI D 5 (gB σ 7)) := (o6 _ (by omega)).trans hR7
      have hR9 : h4 (m + 3) = some (cI D 4 (kdS σ)) := (o6 _ (by omega)).trans hR9
      have hR10 : h4 (m + 4) = some (cI D 4 (gB σ 10)) := (o6 _ (by omega)).trans hR10
      have hR11 : h4 (m + 5) = some (cI D 4 (gB σ 11)) := (o6 _ (by omega)).trans hR11
      have hR12 : h4 (m + 6) = some (cI D 4 (gB σ 12)) := (o6 _ (by omega)).trans hR12
      have hR14 : h4 (m + 7) = some (cI D 12 (gB σ 14)) := (o6 _ (by omega)).trans hR14
      have hR15 : h4 (m + 8) = some (cI D 12 (gB σ 15)) := (o6 _ (by omega)).trans hR15
      have hR17 : h4 (m + 9) = some (cB D 16 (gB σ 17)) := (o6 _ (by omega)).trans hR17
      have hR21 : h4 (m + 10) = some (cI D 5 (f21)) := (o6 _ (by omega)).trans hR21
      have hR22 : h4 (m + 11) = some (cI D 5 (f22)) := (o6 _ (by omega)).trans hR22
      have hR31 : h4 (m + 12) = some (cI D 5 (gB σ 31)) := (o6 _ (by omega)).trans hR31
      have hR32 : h4 (m + 13) = some (cI D 4 (gB σ 32)) := (o6 _ (by omega)).trans hR32
      have hR33 : h4 (m + 14) = some (cI D 12 (gB σ 33)) := (o6 _ (by omega)).trans hR33
      have hR34 : h4 (m + 15) = some (cI D 12 (gB σ 34)) := (o6 _ (by omega)).trans hR34
      have hO : ∀ q, (q < m ∨ m + 16 ≤ q) → h4 q = h q := fun q hq => (o6 q (by omega)).trans (hO q hq)
      refine g_aload_n C 0 dX12_restore_37 rfl rfl rfl ?_
      refine g_aload_n C 0 dX12_restore_38 rfl rfl rfl ?_
      refine gf_12_224 C (hMo) (v := .int (nI (gN σ 29))) rfl dX12_restore_39 rfl ?_
      refine pf_12_95 C (hMo) (v := .int (nI (gN σ 29))) rfl rfl (Nat.le_of_ble_eq_true rfl) dX12_restore_42 (pc' := 45) rfl (fun h7 e8 o9 => ?_)
      have hMo : h7 (m) = some (.inr (12, [.int (nI (gN σ 0)), .int (nI (gN σ 1)), .ref (m + 1), .int (nI (gN σ 3)), .int (nI (gN σ 4)), .int (gI σ 27), .int (nI (gN σ 28)), .ref (m + 2), .int (nI (gN σ 29)), .ref (m + 3), .ref (m + 4), .ref (m + 5), .ref (m + 6), .int (nI (gN σ 13)), .ref (m + 7), .ref (m + 8), .int (nI (gN σ 16)), .ref (m + 9), .long (s18), .int (s19), .int (s20), .ref (m + 10), .ref (m + 11), .int (s23), .int (s24), .int (nI (gN σ 25)), .int (nI (gN σ 26)), .int (gI σ 27), .int (nI (gN σ 28)), .int (nI (gN σ 29)), .int (nI (gN σ 30)), .ref (m + 12), .ref (m + 13), .ref (m + 14), .ref (m + 15), .long (s35)])) := e8
      have hR2 : h7 (m + 1) = some (cI D 9 (tnS σ)) := (o9 _ (by omega)).trans hR2
      have hR7 : h7 (m + 2) = some (cI D 5 (gB σ 7)) := (o9 _ (by omega)).trans hR7
      have hR9 : h7 (m + 3) = some (cI D 4 (kdS σ)) := (o9 _ (by omega)).trans hR9
      have hR10 : h7 (m + 4) = some (cI D 4 (gB σ 10)) := (o9 _ (by omega)).trans hR10
      have hR11 : h7 (m + 5) = some (cI D 4 (gB σ 11)) := (o9 _ (by omega)).trans hR11
      have hR12 : h7 (m + 6) = some (cI D 4 (gB σ 12)) := (o9 _ (by omega)).trans hR12
      have hR14 : h7 (m + 7) = some (cI D 12 (gB σ 14)) := (o9 _ (by omega)).trans hR14
      have hR15 : h7 (m + 8) = some (cI D 12 (gB σ 15)) := (o9 _ (by omega)).trans hR15
      have hR17 : h7 (m + 9) = some (cB D 16 (gB σ 17)) := (o9 _ (by omega)).trans hR17
      have hR21 : h7 (m + 10) = some (cI D 5 (f21)) := (o9 _ (by omega)).trans hR21
      have hR22 : h7 (m + 11) = some (cI D 5 (f22)) := (o9 _ (by omega)).trans hR22
      have hR31 : h7 (m + 12) = some (cI D 5 (gB σ 31)) := (o9 _ (by omega)).trans hR31
      have hR32 : h7 (m + 13) = some (cI D 4 (gB σ 32)) := (o9 _ (by omega)).trans hR32
      have hR33 : h7 (m + 14) = some (cI D 12 (gB σ 33)) := (o9 _ (by omega)).trans hR33
      have hR34 : h7 (m + 15) = some (cI D 12 (gB σ 34)) := (o9 _ (by omega)).trans hR34
      have hO : ∀ q, (q < m ∨ m + 16 ≤ q) → h7 q = h q := fun q hq => (o9 q (by omega)).trans (hO q hq)
      refine g_aload_n C 0 dX12_restore_45 rfl rfl rfl ?_
      refine g_aload_n C 0 dX12_restore_46 rfl rfl rfl ?_
      refine gf_12_227 C (hMo) (v := .int (nI (gN σ 30))) rfl dX12_restore_47 rfl ?_
      refine pf_12_98 C (hMo) (v := .int (nI (gN σ 30))) rfl rfl (Nat.le_of_ble_eq_true rfl) dX12_restore_50 (pc' := 53) rfl (fun h10 e11 o12 => ?_)
      have hMo : h10 (m) = some (.inr (12, [.int (nI (gN σ 0)), .int (nI (gN σ 1)), .ref (m + 1), .int (nI (gN σ 3)), .int (nI (gN σ 4)), .int (gI σ 27), .int (nI (gN σ 28)), .ref (m + 2), .int (nI (gN σ 29)), .ref (m + 3), .ref (m + 4), .ref (m + 5), .ref (m + 6), .int (nI (gN σ 30)), .ref (m + 7), .ref (m + 8), .int (nI (gN σ 16)), .ref (m + 9), .long (s18), .int (s19), .int (s20), .ref (m + 10), .ref (m + 11), .int (s23), .int (s24), .int (nI (gN σ 25)), .int (nI (gN σ 26)), .int (gI σ 27), .int (nI (gN σ 28)), .int (nI (gN σ 29)), .int (nI (gN σ 30)), .ref (m + 12), .ref (m + 13), .ref (m + 14), .ref (m + 15), .long (s35)])) := e11
      have hR2 : h10 (m + 1) = some (cI D 9 (tnS σ)) := (o12 _ (by omega)).trans hR2
      have hR7 : h10 (m + 2) = some (cI D 5 (gB σ 7)) := (o12 _ (by omega)).trans hR7
      have hR9 : h10 (m + 3) = some (cI D 4 (kdS σ)) := (o12 _ (by omega)).trans hR9
      have hR10 : h10 (m + 4) = some (cI D 4 (gB σ 10)) := (o12 _ (by omega)).trans hR10
      have hR11 : h10 (m + 5) = some (cI D 4 (gB σ 11)) := (o12 _ (by omega)).trans hR11
      have hR12 : h10 (m + 6) = some (cI D 4 (gB σ 12)) := (o12 _ (by omega)).trans hR12
      have hR14 : h10 (m + 7) = some (cI D 12 (gB σ 14)) := (o12 _ (by omega)).trans hR14
      have hR15 : h10 (m + 8) = some (cI D 12 (gB σ 15)) := (o12 _ (by omega)).trans hR15
      have hR17 : h10 (m + 9) = some (cB D 16 (gB σ 17)) := (o12 _ (by omega)).trans hR17
      have hR21 : h10 (m + 10) = some (cI D 5 (f21)) := (o12 _ (by omega)).trans hR21
      have hR22 : h10 (m + 11) = some (cI D 5 (f22)) := (o12 _ (by omega)).trans hR22
      have hR31 : h10 (m + 12) = some (cI D 5 (gB σ 31)) := (o12 _ (by omega)).trans hR31
      have hR32 : h10 (m + 13) = some (cI D 4 (gB σ 32)) := (o12 _ (by omega)).trans hR32
      have hR33 : h10 (m + 14) = some (cI D 12 (gB σ 33)) := (o12 _ (by omega)).trans hR33
      have hR34 : h10 (m + 15) = some (cI D 12 (gB σ 34)) := (o12 _ (by omega)).trans hR34
      have hO : ∀ q, (q < m ∨ m + 16 ≤ q) → h10 q = h q := fun q hq => (o12 q (by omega)).trans (hO q hq)
      refine g_iconst C (v := 0) dX12_restore_53 (by decide) rfl ?_
      refine g_istore_n C ([(1, .int (0)), (0, .ref (m))]) dX12_restore_54 rfl (by decide) rfl rfl ?_
      refine g_iload_n C 0 dX12_restore_55 rfl rfl rfl ?_
      refine g_iconst C (v := 4) dX12_restore_56 (by decide) rfl ?_
      refine g_icmp_gt C dX12_restore_57 (tgt := 78) (by decide) (pc' := 60) rfl (fun c57 => absurd c57 (by decide)) (fun _ => ?_)
      refine g_aload_n C 1 dX12_restore_60 rfl rfl rfl ?_
      refine gf_12_13 C (hMo) (v := .ref (m + 2)) rfl dX12_restore_61 rfl ?_
      refine g_iload_n C 0 dX12_restore_64 rfl rfl rfl ?_
      refine g_aload_n C 1 dX12_restore_65 rfl rfl rfl ?_
      refine gf_12_44 C (hMo) (v := .ref (m + 12)) rfl dX12_restore_66 rfl ?_
      refine g_iload_n C 0 dX12_restore_69 rfl rfl rfl ?_
      refine g_iald' C (hR31) (j := 0) rfl (by omega) (by decide) dX12_restore_70 rfl ?_
      refine g_iast' C (hR7) (j := 0) rfl (by omega) (by decide) dX12_restore_71 (pc' := 72) rfl (fun h13 e14 o15 => ?_)
      have hR7 : h13 (m + 2) = some (cI D 5 (upd (gB σ 7) (0) (gB σ 31 (0)))) := e14
      have hMo : h13 (m) = some (.inr (12, [.int (nI (gN σ 0)), .int (nI (gN σ 1)), .ref (m + 1), .int (nI (gN σ 3)), .int (nI (gN σ 4)), .int (gI σ 27), .int (nI (gN σ 28)), .ref (m + 2), .int (nI (gN σ 29)), .ref (m + 3), .ref (m + 4), .ref (m + 5), .ref (m + 6), .int (nI (gN σ 30)), .ref (m + 7), .ref (m + 8), .int (nI (gN σ 16)), .ref (m + 9), .long (s18), .int (s19), .int (s20), .ref (m + 10), .ref (m + 11), .int (s23), .int (s24), .int (nI (gN σ 25)), .int (nI (gN σ 26)), .int (gI σ 27), .int (nI (gN σ 28)), .int (nI (gN σ 29)), .int (nI (gN σ 30)), .ref (m + 12), .ref (m + 13), .ref (m + 14), .ref (m + 15), .long (s35)])) := (o15 _ (by omega)).trans hMo
      have hR2 : h13 (m + 1) = some (cI D 9 (tnS σ)) := (o15 _ (by omega)).trans hR2
      have hR9 : h13 (m + 3) = some (cI D 4 (kdS σ)) := (o15 _ (by omega)).trans hR9
      have hR10 : h13 (m + 4) = some (cI D 4 (gB σ 10)) := (o15 _ (by omega)).trans hR10
      have hR11 : h13 (m + 5) = some (cI D 4 (gB σ 11)) := (o15 _ (by omega)).trans hR11
      have hR12 : h13 (m + 6) = some (cI D 4 (gB σ 12)) := (o15 _ (by omega)).trans hR12
      have hR14 : h13 (m + 7) = some (cI D 12 (gB σ 14)) := (o15 _ (by omega)).trans hR14
      have hR15 : h13 (m + 8) = some (cI D 12 (gB σ 15)) := (o15 _ (by omega)).trans hR15
      have hR17 : h13 (m + 9) = some (cB D 16 (gB σ 17)) := (o15 _ (by omega)).trans hR17
      have hR21 : h13 (m + 10) = some (cI D 5 (f21)) := (o15 _ (by omega)).trans hR21
      have hR22 : h13 (m + 11) = some (cI D 5 (f22)) := (o15 _ (by omega)).trans hR22
      have hR31 : h13 (m + 12) = some (cI D 5 (gB σ 31)) := (o15 _ (by omega)).trans hR31
      have hR32 : h13 (m + 13) = some (cI D 4 (gB σ 32)) := (o15 _ (by omega)).trans hR32
      have hR33 : h13 (m + 14) = some (cI D 12 (gB σ 33)) := (o15 _ (by omega)).trans hR33
      have hR34 : h13 (m + 15) = some (cI D 12 (gB σ 34)) := (o15 _ (by omega)).trans hR34
      have hO : ∀ q, (q < m ∨ m + 16 ≤ q) → h13 q = h q := fun q hq => (o15 q (by omega)).trans (hO q hq)
      refine g_iinc C (v := 1) 0 ([(1, .int (1)), (0, .ref (m))]) dX12_restore_72 rfl (by decide) (by decide) rfl rfl ?_
      refine g_goto C dX12_restore_75 (tgt := 55) (by decide) ?_
      refine g_iload_n C 0 dX12_restore_55 rfl rfl rfl ?_
      refine g_iconst C (v := 4) dX12_restore_56 (by decide) rfl ?_
      refine g_icmp_gt C dX12_restore_57 (tgt := 78) (by decide) (pc' := 60) rfl (fun c57 => absurd c57 (by decide)) (fun _ => ?_)
      refine g_aload_n C 1 dX12_restore_60 rfl rfl rfl ?_
      refine gf_12_13 C (hMo) (v := .ref (m + 2)) rfl dX12_restore_61 rfl ?_
      refine g_iload_n C 0 dX12_restore_64 rfl rfl rfl ?_
      refine g_aload_n C 1 dX12_restore_65 rfl rfl rfl ?_
      refine gf_12_44 C (hMo) (v := .ref (m + 12)) rfl dX12_restore_66 rfl ?_
      refine g_iload_n C 0 dX12_restore_69 rfl rfl rfl ?_
      refine g_iald' C (hR31) (j := 1) rfl (by omega) (by decide) dX12_restore_70 rfl ?_
      refine g_iast' C (hR7) (j := 1) rfl (by omega) (by decide) dX12_restore_71 (pc' := 72) rfl (fun h16 e17 o18 => ?_)
      have hR7 : h16 (m + 2) = some (cI D 5 (upd (upd (gB σ 7) (0) (gB σ 31 (0))) (1) (gB σ 31 (1)))) := e17
      have hMo : h16 (m) = some (.inr (12, [.int (nI (gN σ 0)), .int (nI (gN σ 1)), .ref (m + 1), .int (nI (gN σ 3)), .int (nI (gN σ 4)), .int (gI σ 27), .int (nI (gN σ 28)), .ref (m + 2), .int (nI (gN σ 29)), .ref (m + 3), .ref (m + 4), .ref (m + 5), .ref (m + 6), .int (nI (gN σ 30)), .ref (m + 7), .ref (m + 8), .int (nI (gN σ 16)), .ref (m + 9), .long (s18), .int (s19), .int (s20), .ref (m + 10), .ref (m + 11), .int (s23), .int (s24), .int (nI (gN σ 25)), .int (nI (gN σ 26)), .int (gI σ 27), .int (nI (gN σ 28)), .int (nI (gN σ 29)), .int (nI (gN σ 30)), .ref (m + 12), .ref (m + 13), .ref (m + 14), .ref (m + 15), .long (s35)])) := (o18 _ (by omega)).trans hMo
      have hR2 : h16 (m + 1) = some (cI D 9 (tnS σ)) := (o18 _ (by omega)).trans hR2
      have hR9 : h16 (m + 3) = some (cI D 4 (kdS σ)) := (o18 _ (by omega)).trans hR9
      have hR10 : h16 (m + 4) = some (cI D 4 (gB σ 10)) := (o18 _ (by omega)).trans hR10
      have hR11 : h16 (m + 5) = some (cI D 4 (gB σ 11)) := (o18 _ (by omega)).trans hR11
      have hR12 : h16 (m + 6) = some (cI D 4 (gB σ 12)) := (o18 _ (by omega)).trans hR12
      have hR14 : h16 (m + 7) = some (cI D 12 (gB σ 14)) := (o18 _ (by omega)).trans hR14
      have hR15 : h16 (m + 8) = some (cI D 12 (gB σ 15)) := (o18 _ (by omega)).trans hR15
      have hR17 : h16 (m + 9) = some (cB D 16 (gB σ 17)) := (o18 _ (by omega)).trans hR17
      have hR21 : h16 (m + 10) = some (cI D 5 (f21)) := (o18 _ (by omega)).trans hR21
      have hR22 : h16 (m + 11) = some (cI D 5 (f22)) := (o18 _ (by omega)).trans hR22
      have hR31 : h16 (m + 12) = some (cI D 5 (gB σ 31)) := (o18 _ (by omega)).trans hR31
      have hR32 : h16 (m + 13) = some (cI D 4 (gB σ 32)) := (o18 _ (by omega)).trans hR32
      have hR33 : h16 (m + 14) = some (cI D 12 (gB σ 33)) := (o18 _ (by omega)).trans hR33
      have hR34 : h16 (m + 15) = some (cI D 12 (gB σ 34)) := (o18 _ (by omega)).trans hR34
      have hO : ∀ q, (q < m ∨ m + 16 ≤ q) → h16 q = h q := fun q hq => (o18 q (by omega)).trans (hO q hq)
      refine g_iinc C (v := 2) 0 ([(1, .int (2)), (0, .ref (m))]) dX12_restore_72 rfl (by decide) (by decide) rfl rfl ?_
      refine g_goto C dX12_restore_75 (tgt := 55) (by decide) ?_
      refine g_iload_n C 0 dX12_restore_55 rfl rfl rfl ?_
      refine g_iconst C (v := 4) dX12_restore_56 (by decide) rfl ?_
      refine g_icmp_gt C dX12_restore_57 (tgt := 78) (by decide) (pc' := 60) rfl (fun c57 => absurd c57 (by decide)) (fun _ => ?_)
      refine g_aload_n C 1 dX12_restore_60 rfl rfl rfl ?_
      refine gf_12_13 C (hMo) (v := .ref (m + 2)) rfl dX12_restore_61 rfl ?_
      refine g_iload_n C 0 dX12_restore_64 rfl rfl rfl ?_
      refine g_aload_n C 1 dX12_restore_65 rfl rfl rfl ?_
      refine gf_12_44 C (hMo) (v := .ref (m + 12)) rfl dX12_restore_66 rfl ?_
      refine g_iload_n C 0 dX12_restore_69 rfl rfl rfl ?_
      refine g_iald' C (hR31) (j := 2) rfl (by omega) (by decide) dX12_restore_70 rfl ?_
      refine g_iast' C (hR7) (j := 2) rfl (by omega) (by decide) dX12_restore_71 (pc' := 72) rfl (fun h19 e20 o21 => ?_)
      have hR7 : h19 (m + 2) = some (cI D 5 (upd (upd (upd (gB σ 7) (0) (gB σ 31 (0))) (1) (gB σ 31 (1))) (2) (gB σ 31 (2)))) := e20
      have hMo : h19 (m) = some (.inr (12, [.int (nI (gN σ 0)), .int (nI (gN σ 1)), .ref (m + 1), .int (nI (gN σ 3)), .int (nI (gN σ 4)), .int (gI σ 27), .int (nI (gN σ 28)), .ref (m + 2), .int (nI (gN σ 29)), .ref (m + 3), .ref (m + 4), .ref (m + 5), .ref (m + 6), .int (nI (gN σ 30)), .ref (m + 7), .ref (m + 8), .int (nI (gN σ 16)), .ref (m + 9), .long (s18), .int (s19), .int (s20), .ref (m + 10), .ref (m + 11), .int (s23), .int (s24), .int (nI (gN σ 25)), .int (nI (gN σ 26)), .int (gI σ 27), .int (nI (gN σ 28)), .int (nI (gN σ 29)), .int (nI (gN σ 30)), .ref (m + 12), .ref (m + 13), .ref (m + 14), .ref (m + 15), .long (s35)])) := (o21 _ (by omega)).trans hMo
      have hR2 : h19 (m + 1) = some (cI D 9 (tnS σ)) := (o21 _ (by omega)).trans hR2
      have hR9 : h19 (m + 3) = some (cI D 4 (kdS σ)) := (o21 _ (by omega)).trans hR9
      have hR10 : h19 (m + 4) = some (cI D 4 (gB σ 10)) := (o21 _ (by omega)).trans hR10
      have hR11 : h19 (m + 5) = some (cI D 4 (gB σ 11)) := (o21 _ (by omega)).trans hR11
      have hR12 : h19 (m + 6) = some (cI D 4 (gB σ 12)) := (o21 _ (by omega)).trans hR12
      have hR14 : h19 (m + 7) = some (cI D 12 (gB σ 14)) := (o21 _ (by omega)).trans hR14
      have hR15 : h19 (m + 8) = some (cI D 12 (gB σ 15)) := (o21 _ (by omega)).trans hR15
      have hR17 : h19 (m + 9) = some (cB D 16 (gB σ 17)) := (o21 _ (by omega)).trans hR17
      have hR21 : h19 (m + 10) = some (cI D 5 (f21)) := (o21 _ (by omega)).trans hR21
      have hR22 : h19 (m + 11) = some (cI D 5 (f22)) := (o21 _ (by omega)).trans hR22
      have hR31 : h19 (m + 12) = some (cI D 5 (gB σ 31)) := (o21 _ (by omega)).trans hR31
      have hR32 : h19 (m + 13) = some (cI D 4 (gB σ 32)) := (o21 _ (by omega)).trans hR32
      have hR33 : h19 (m + 14) = some (cI D 12 (gB σ 33)) := (o21 _ (by omega)).trans hR33
      have hR34 : h19 (m + 15) = some (cI D 12 (gB σ 34)) := (o21 _ (by omega)).trans hR34
      have hO : ∀ q, (q < m ∨ m + 16 ≤ q) → h19 q = h q := fun q hq => (o21 q (by omega)).trans (hO q hq)
      refine g_iinc C (v := 3) 0 ([(1, .int (3)), (0, .ref (m))]) dX12_restore_72 rfl (by decide) (by decide) rfl rfl ?_
      refine g_goto C dX12_restore_75 (tgt := 55) (by decide) ?_
      refine g_iload_n C 0 dX12_restore_55 rfl rfl rfl ?_
      refine g_iconst C (v := 4) dX12_restore_56 (by decide) rfl ?_
      refine g_icmp_gt C dX12_restore_57 (tgt := 78) (by decide) (pc' := 60) rfl (fun c57 => absurd c57 (by decide)) (fun _ => ?_)
      refine g_aload_n C 1 dX12_restore_60 rfl rfl rfl ?_
      refine gf_12_13 C (hMo) (v := .ref (m + 2)) rfl dX12_restore_61 rfl ?_
      refine g_iload_n C 0 dX12_restore_64 rfl rfl rfl ?_
      refine g_aload_n C 1 dX12_restore_65 rfl rfl rfl ?_
      refine gf_12_44 C (hMo) (v := .ref (m + 12)) rfl dX12_restore_66 rfl ?_
      refine g_iload_n C 0 dX12_restore_69 rfl rfl rfl ?_
      refine g_iald' C (hR31) (j := 3) rfl (by omega) (by decide) dX12_restore_70 rfl ?_
      refine g_iast' C (hR7) (j := 3) rfl (by omega) (by decide) dX12_restore_71 (pc' := 72) rfl (fun h22 e23 o24 => ?_)
      have hR7 : h22 (m + 2) = some (cI D 5 (upd (upd (upd (upd (gB σ 7) (0) (gB σ 31 (0))) (1) (gB σ 31 (1))) (2) (gB σ 31 (2))) (3) (gB σ 31 (3)))) := e23
      have hMo : h22 (m) = some (.inr (12, [.int (nI (gN σ 0)), .int (nI (gN σ 1)), .ref (m + 1), .int (nI (gN σ 3)), .int (nI (gN σ 4)), .int (gI σ 27), .int (nI (gN σ 28)), .ref (m + 2), .int (nI (gN σ 29)), .ref (m + 3), .ref (m + 4), .ref (m + 5), .ref (m + 6), .int (nI (gN σ 30)), .ref (m + 7), .ref (m + 8), .int (nI (gN σ 16)), .ref (m + 9), .long (s18), .int (s19), .int (s20), .ref (m + 10), .ref (m + 11), .int (s23), .int (s24), .int (nI (gN σ 25)), .int (nI (gN σ 26)), .int (gI σ 27), .int (nI (gN σ 28)), .int (nI (gN σ 29)), .int (nI (gN σ 30)), .ref (m + 12), .ref (m + 13), .ref (m + 14), .ref (m + 15), .long (s35)])) := (o24 _ (by omega)).trans hMo
      have hR2 : h22 (m + 1) = some (cI D 9 (tnS σ)) := (o24 _ (by omega)).trans hR2
      have hR9 : h22 (m + 3) = some (cI D 4 (kdS σ)) := (o24 _ (by omega)).trans hR9
      have hR10 : h22 (m + 4) = some (cI D 4 (gB σ 10)) := (o24 _ (by omega)).trans hR10
      have hR11 : h22 (m + 5) = some (cI D 4 (gB σ 11)) := (o24 _ (by omega)).trans hR11
      have hR12 : h22 (m + 6) = some (cI D 4 (gB σ 12)) := (o24 _ (by omega)).trans hR12
      have hR14 : h22 (m + 7) = some (cI D 12 (gB σ 14)) := (o24 _ (by omega)).trans hR14
      have hR15 : h22 (m + 8) = some (cI D 12 (gB σ 15)) := (o24 _ (by omega)).trans hR15
      have hR17 : h22 (m + 9) = some (cB D 16 (gB σ 17)) := (o24 _ (by omega)).trans hR17
      have hR21 : h22 (m + 10) = some (cI D 5 (f21)) := (o24 _ (by omega)).trans hR21
      have hR22 : h22 (m + 11) = some (cI D 5 (f22)) := (o24 _ (by omega)).trans hR22
      have hR31 : h22 (m + 12) = some (cI D 5 (gB σ 31)) := (o24 _ (by omega)).trans hR31
      have hR32 : h22 (m + 13) = some (cI D 4 (gB σ 32)) := (o24 _ (by omega)).trans hR32
      have hR33 : h22 (m + 14) = some (cI D 12 (gB σ 33)) := (o24 _ (by omega)).trans hR33
      have hR34 : h22 (m + 15) = some (cI D 12 (gB σ 34)) := (o24 _ (by omega)).trans hR34
      have hO : ∀ q, (q < m ∨ m + 16 ≤ q) → h22 q = h q := fun q hq => (o24 q (by omega)).trans (hO q hq)
      refine g_iinc C (v := 4) 0 ([(1, .int (4)), (0, .ref (m))]) dX12_restore_72 rfl (by decide) (by decide) rfl rfl ?_
      refine g_goto C dX12_restore_75 (tgt := 55) (by decide) ?_
      refine g_iload_n C 0 dX12_restore_55 rfl rfl rfl ?_
      refine g_iconst C (v := 4) dX12_restore_56 (by decide) rfl ?_
      refine g_icmp_gt C dX12_restore_57 (tgt := 78) (by decide) (pc' := 60) rfl (fun c57 => absurd c57 (by decide)) (fun _ => ?_)
      refine g_aload_n C 1 dX12_restore_60 rfl rfl rfl ?_
      refine gf_12_13 C (hMo) (v := .ref (m + 2)) rfl dX12_restore_61 rfl ?_
      refine g_iload_n C 0 dX12_restore_64 rfl rfl rfl ?_
      refine g_aload_n C 1 dX12_restore_65 rfl rfl rfl ?_
      refine gf_12_44 C (hMo) (v := .ref (m + 12)) rfl dX12_restore_66 rfl ?_
      refine g_iload_n C 0 dX12_restore_69 rfl rfl rfl ?_
      refine g_iald' C (hR31) (j := 4) rfl (by omega) (by decide) dX12_restore_70 rfl ?_
      refine g_iast' C (hR7) (j := 4) rfl (by omega) (by decide) dX12_restore_71 (pc' := 72) rfl (fun h25 e26 o27 => ?_)
      have hR7 : h25 (m + 2) = some (cI D 5 (upd (upd (upd (upd (upd (gB σ 7) (0) (gB σ 31 (0))) (1) (gB σ 31 (1))) (2) (gB σ 31 (2))) (3) (gB σ 31 (3))) (4) (gB σ 31 (4)))) := e26
      have hMo : h25 (m) = some (.inr (12, [.int (nI (gN σ 0)), .int (nI (gN σ 1)), .ref (m + 1), .int (nI (gN σ 3)), .int (nI (gN σ 4)), .int (gI σ 27), .int (nI (gN σ 28)), .ref (m + 2), .int (nI (gN σ 29)), .ref (m + 3), .ref (m + 4), .ref (m + 5), .ref (m + 6), .int (nI (gN σ 30)), .ref (m + 7), .ref (m + 8), .int (nI (gN σ 16)), .ref (m + 9), .long (s18), .int (s19), .int (s20), .ref (m + 10), .ref (m + 11), .int (s23), .int (s24), .int (nI (gN σ 25)), .int (nI (gN σ 26)), .int (gI σ 27), .int (nI (gN σ 28)), .int (nI (gN σ 29)), .int (nI (gN σ 30)), .ref (m + 12), .ref (m + 13), .ref (m + 14), .ref (m + 15), .long (s35)])) := (o27 _ (by omega)).trans hMo
      have hR2 : h25 (m + 1) = some (cI D 9 (tnS σ)) := (o27 _ (by omega)).trans hR2
      have hR9 : h25 (m + 3) = some (cI D 4 (kdS σ)) := (o27 _ (by omega)).trans hR9
      have hR10 : h25 (m + 4) = some (cI D 4 (gB σ 10)) := (o27 _ (by omega)).trans hR10
      have hR11 : h25 (m + 5) = some (cI D 4 (gB σ 11)) := (o27 _ (by omega)).trans hR11
      have hR12 : h25 (m + 6) = some (cI D 4 (gB σ 12)) := (o27 _ (by omega)).trans hR12
      have hR14 : h25 (m + 7) = some (cI D 12 (gB σ 14)) := (o27 _ (by omega)).trans hR14
      have hR15 : h25 (m + 8) = some (cI D 12 (gB σ 15)) := (o27 _ (by omega)).trans hR15
      have hR17 : h25 (m + 9) = some (cB D 16 (gB σ 17)) := (o27 _ (by omega)).trans hR17
      have hR21 : h25 (m + 10) = some (cI D 5 (f21)) := (o27 _ (by omega)).trans hR21
      have hR22 : h25 (m + 11) = some (cI D 5 (f22)) := (o27 _ (by omega)).trans hR22
      have hR31 : h25 (m + 12) = some (cI D 5 (gB σ 31)) := (o27 _ (by omega)).trans hR31
      have hR32 : h25 (m + 13) = some (cI D 4 (gB σ 32)) := (o27 _ (by omega)).trans hR32
      have hR33 : h25 (m + 14) = some (cI D 12 (gB σ 33)) := (o27 _ (by omega)).trans hR33
      have hR34 : h25 (m + 15) = some (cI D 12 (gB σ 34)) := (o27 _ (by omega)).trans hR34
      have hO : ∀ q, (q < m ∨ m + 16 ≤ q) → h25 q = h q := fun q hq => (o27 q (by omega)).trans (hO q hq)
      refine g_iinc C (v := 5) 0 ([(1, .int (5)), (0, .ref (m))]) dX12_restore_72 rfl (by decide) (by decide) rfl rfl ?_
      refine g_goto C dX12_restore_75 (tgt := 55) (by decide) ?_
      refine g_iload_n C 0 dX12_restore_55 rfl rfl rfl ?_
      refine g_iconst C (v := 4) dX12_restore_56 (by decide) rfl ?_
      refine g_icmp_gt C dX12_restore_57 (tgt := 78) (by decide) (pc' := 60) rfl (fun _ => ?_) (fun c57 => absurd (by decide) c57)
      refine g_iconst C (v := 0) dX12_restore_78 (by decide) rfl ?_
      refine g_istore_n C ([(1, .int (0)), (0, .ref (m))]) dX12_restore_79 rfl (by decide) rfl rfl ?_
      refine g_iload_n C 0 dX12_restore_80 rfl rfl rfl ?_
      refine g_iconst C (v := 4) dX12_restore_81 (by decide) rfl ?_
      refine g_icmp_ge C dX12_restore_82 (tgt := 103) (by decide) (pc' := 85) rfl (fun c82 => absurd c82 (by decide)) (fun _ => ?_)
      refine g_aload_n C 1 dX12_restore_85 rfl rfl rfl ?_
      refine gf_12_25 C (hMo) (v := .ref (m + 6)) rfl dX12_restore_86 rfl ?_
      refine g_iload_n C 0 dX12_restore_89 rfl rfl rfl ?_
      refine g_aload_n C 1 dX12_restore_90 rfl rfl rfl ?_
      refine gf_12_47 C (hMo) (v := .ref (m + 13)) rfl dX12_restore_91 rfl ?_
      refine g_iload_n C 0 dX12_restore_94 rfl rfl rfl ?_
      refine g_iald' C (hR32) (j := 0) rfl (by omega) (by decide) dX12_restore_95 rfl ?_
      refine g_iast' C (hR12) (j := 0) rfl (by omega) (by decide) dX12_restore_96 (pc' := 97) rfl (fun h28 e29 o30 => ?_)
      have hR12 : h28 (m + 6) = some (cI D 4 (upd (gB σ 12) (0) (gB σ 32 (0)))) := e29
      have hMo : h28 (m) = some (.inr (12, [.int (nI (gN σ 0)), .int (nI (gN σ 1)), .ref (m + 1), .int (nI (gN σ 3)), .int (nI (gN σ 4)), .int (gI σ 27), .int (nI (gN σ 28)), .ref (m + 2), .int (nI (gN σ 29)), .ref (m + 3), .ref (m + 4), .ref (m + 5), .ref (m + 6), .int (nI (gN σ 30)), .ref (m + 7), .ref (m + 8), .int (nI (gN σ 16)), .ref (m + 9), .long (s18), .int (s19), .int (s20), .ref (m + 10), .ref (m + 11), .int (s23), .int (s24), .int (nI (gN σ 25)), .int (nI (gN σ 26)), .int (gI σ 27), .int (nI (gN σ 28)), .int (nI (gN σ 29)), .int (nI (gN σ 30)), .ref (m + 12), .ref (m + 13), .ref (m + 14), .ref (m + 15), .long (s35)])) := (o30 _ (by omega)).trans hMo
      have hR2 : h28 (m + 1) = some (cI D 9 (tnS σ)) := (o30 _ (by omega)).trans hR2
      have hR7 : h28 (m + 2) = some (cI D 5 (upd (upd (upd (upd (upd (gB σ 7) (0) (gB σ 31 (0))) (1) (gB σ 31 (1))) (2) (gB σ 31 (2))) (3) (gB σ 31 (3))) (4) (gB σ 31 (4)))) := (o30 _ (by omega)).trans hR7
      have hR9 : h28 (m + 3) = some (cI D 4 (kdS σ)) := (o30 _ (by omega)).trans hR9
      have hR10 : h28 (m + 4) = some (cI D 4 (gB σ 10)) := (o30 _ (by omega)).trans hR10
      have hR11 : h28 (m + 5) = some (cI D 4 (gB σ 11)) := (o30 _ (by omega)).trans hR11
      have hR14 : h28 (m + 7) = some (cI D 12 (gB σ 14)) := (o30 _ (by omega)).trans hR14
      have hR15 : h28 (m + 8) = some (cI D 12 (gB σ 15)) := (o30 _ (by omega)).trans hR15
      have hR17 : h28 (m + 9) = some (cB D 16 (gB σ 17)) := (o30 _ (by omega)).trans hR17
      have hR21 : h28 (m + 10) = some (cI D 5 (f21)) := (o30 _ (by omega)).trans hR21
      have hR22 : h28 (m + 11) = some (cI D 5 (f22)) := (o30 _ (by omega)).trans hR22
      have hR31 : h28 (m + 12) = some (cI D 5 (gB σ 31)) := (o30 _ (by omega)).trans hR31
      have hR32 : h28 (m + 13) = some (cI D 4 (gB σ 32)) := (o30 _ (by omega)).trans hR32
      have hR33 : h28 (m + 14) = some (cI D 12 (gB σ 33)) := (o30 _ (by omega)).trans hR33
      have hR34 : h28 (m + 15) = some (cI D 12 (gB σ 34)) := (o30 _ (by omega)).trans hR34
      have hO : ∀ q, (q < m ∨ m + 16 ≤ q) → h28 q = h q := fun q hq => (o30 q (by omega)).trans (hO q hq)
      refine g_iinc C (v := 1) 0 ([(1, .int (1)), (0, .ref (m))]) dX12_restore_97 rfl (by decide) (by decide) rfl rfl ?_
      refine g_goto C dX12_restore_100 (tgt := 80) (by decide) ?_
      refine g_iload_n C 0 dX12_restore_80 rfl rfl rfl ?_
      refine g_iconst C (v := 4) dX12_restore_81 (by decide) rfl ?_
      refine g_icmp_ge C dX12_restore_82 (tgt := 103) (by decide) (pc' := 85) rfl (fun c82 => absurd c82 (by decide)) (fun _ => ?_)
      refine g_aload_n C 1 dX12_restore_85 rfl rfl rfl ?_
      refine gf_12_25 C (hMo) (v := .ref (m + 6)) rfl dX12_restore_86 rfl ?_
      refine g_iload_n C 0 dX12_restore_89 rfl rfl rfl ?_
      refine g_aload_n C 1 dX12_restore_90 rfl rfl rfl ?_
      refine gf_12_47 C (hMo) (v := .ref (m + 13)) rfl dX12_restore_91 rfl ?_
      refine g_iload_n C 0 dX12_restore_94 rfl rfl rfl ?_
      refine g_iald' C (hR32) (j := 1) rfl (by omega) (by decide) dX12_restore_95 rfl ?_
      refine g_iast' C (hR12) (j := 1) rfl (by omega) (by decide) dX12_restore_96 (pc' := 97) rfl (fun h31 e32 o33 => ?_)
      have hR12 : h31 (m + 6) = some (cI D 4 (upd (upd (gB σ 12) (0) (gB σ 32 (0))) (1) (gB σ 32 (1)))) := e32
      have hMo : h31 (m) = some (.inr (12, [.int (nI (gN σ 0)), .int (nI (gN σ 1)), .ref (m + 1), .int (nI (gN σ 3)), .int (nI (gN σ 4)), .int (gI σ 27), .int (nI (gN σ 28)), .ref (m + 2), .int (nI (gN σ 29)), .ref (m + 3), .ref (m + 4), .ref (m + 5), .ref (m + 6), .int (nI (gN σ 30)), .ref (m + 7), .ref (m + 8), .int (nI (gN σ 16)), .ref (m + 9), .long (s18), .int (s19), .int (s20), .ref (m + 10), .ref (m + 11), .int (s23), .int (s24), .int (nI (gN σ 25)), .int (nI (gN σ 26)), .int (gI σ 27), .int (nI (gN σ 28)), .int (nI (gN σ 29)), .int (nI (gN σ 30)), .ref (m + 12), .ref (m + 13), .ref (m + 14), .ref (m + 15), .long (s35)])) := (o33 _ (by omega)).trans hMo
      have hR2 : h31 (m + 1) = some (cI D 9 (tnS σ)) := (o33 _ (by omega)).trans hR2
      have hR7 : h31 (m + 2) = some (cI D 5 (upd (upd (upd (upd (upd (gB σ 7) (0) (gB σ 31 (0))) (1) (gB σ 31 (1))) (2) (gB σ 31 (2))) (3) (gB σ 31 (3))) (4) (gB σ 31 (4)))) := (o33 _ (by omega)).trans hR7
      have hR9 : h31 (m + 3) = some (cI D 4 (kdS σ)) := (o33 _ (by omega)).trans hR9
      have hR10 : h31 (m + 4) = some (cI D 4 (gB σ 10)) := (o33 _ (by omega)).trans hR10
      have hR11 : h31 (m + 5) = some (cI D 4 (gB σ 11)) := (o33 _ (by omega)).trans hR11
      have hR14 : h31 (m + 7) = some (cI D 12 (gB σ 14)) := (o33 _ (by omega)).trans hR14
      have hR15 : h31 (m + 8) = some (cI D 12 (gB σ 15)) := (o33 _ (by omega)).trans hR15
      have hR17 : h31 (m + 9) = some (cB D 16 (gB σ 17)) := (o33 _ (by omega)).trans hR17
      have hR21 : h31 (m + 10) = some (cI D 5 (f21)) := (o33 _ (by omega)).trans hR21
      have hR22 : h31 (m + 11) = some (cI D 5 (f22)) := (o33 _ (by omega)).trans hR22
      have hR31 : h31 (m + 12) = some (cI D 5 (gB σ 31)) := (o33 _ (by omega)).trans hR31
      have hR32 : h31 (m + 13) = some (cI D 4 (gB σ 32)) := (o33 _ (by omega)).trans hR32
      have hR33 : h31 (m + 14) = some (cI D 12 (gB σ 33)) := (o33 _ (by omega)).trans hR33
      have hR34 : h31 (m + 15) = some (cI D 12 (gB σ 34)) := (o33 _ (by omega)).trans hR34
      have hO : ∀ q, (q < m ∨ m + 16 ≤ q) → h31 q = h q := fun q hq => (o33 q (by omega)).trans (hO q hq)
      refine g_iinc C (v := 2) 0 ([(1, .int (2)), (0, .ref (m))]) dX12_restore_97 rfl (by decide) (by decide) rfl rfl ?_
      refine g_goto C dX12_restore_100 (tgt := 80) (by decide) ?_
      refine g_iload_n C 0 dX12_restore_80 rfl rfl rfl ?_
      refine g_iconst C (v := 4) dX12_restore_81 (by decide) rfl ?_
      refine g_icmp_ge C dX12_restore_82 (tgt := 103) (by decide) (pc' := 85) rfl (fun c82 => absurd c82 (by decide)) (fun _ => ?_)
      refine g_aload_n C 1 dX12_restore_85 rfl rfl rfl ?_
      refine gf_12_25 C (hMo) (v := .ref (m + 6)) rfl dX12_restore_86 rfl ?_
      refine g_iload_n C 0 dX12_restore_89 rfl rfl rfl ?_
      refine g_aload_n C 1 dX12_restore_90 rfl rfl rfl ?_
      refine gf_12_47 C (hMo) (v := .ref (m + 13)) rfl dX12_restore_91 rfl ?_
      refine g_iload_n C 0 dX12_restore_94 rfl rfl rfl ?_
      refine g_iald' C (hR32) (j := 2) rfl (by omega) (by decide) dX12_restore_95 rfl ?_
      refine g_iast' C (hR12) (j := 2) rfl (by omega) (by decide) dX12_restore_96 (pc' := 97) rfl (fun h34 e35 o36 => ?_)
      have hR12 : h34 (m + 6) = some (cI D 4 (upd (upd (upd (gB σ 12) (0) (gB σ 32 (0))) (1) (gB σ 32 (1))) (2) (gB σ 32 (2)))) := e35
      have hMo : h34 (m) = some (.inr (12, [.int (nI (gN σ 0)), .int (nI (gN σ 1)), .ref (m + 1), .int (nI (gN σ 3)), .int (nI (gN σ 4)), .int (gI σ 27), .int (nI (gN σ 28)), .ref (m + 2), .int (nI (gN σ 29)), .ref (m + 3), .ref (m + 4), .ref (m + 5), .ref (m + 6), .int (nI (gN σ 30)), .ref (m + 7), .ref (m + 8), .int (nI (gN σ 16)), .ref (m + 9), .long (s18), .int (s19), .int (s20), .ref (m + 10), .ref (m + 11), .int (s23), .int (s24), .int (nI (gN σ 25)), .int (nI (gN σ 26)), .int (gI σ 27), .int (nI (gN σ 28)), .int (nI (gN σ 29)), .int (nI (gN σ 30)), .ref (m + 12), .ref (m + 13), .ref (m + 14), .ref (m + 15), .long (s35)])) := (o36 _ (by omega)).trans hMo
      have hR2 : h34 (m + 1) = some (cI D 9 (tnS σ)) := (o36 _ (by omega)).trans hR2
      have hR7 : h34 (m + 2) = some (cI D 5 (upd (upd (upd (upd (upd (gB σ 7) (0) (gB σ 31 (0))) (1) (gB σ 31 (1))) (2) (gB σ 31 (2))) (3) (gB σ 31 (3))) (4) (gB σ 31 (4)))) := (o36 _ (by omega)).trans hR7
      have hR9 : h34 (m + 3) = some (cI D 4 (kdS σ)) := (o36 _ (by omega)).trans hR9
      have hR10 : h34 (m + 4) = some (cI D 4 (gB σ 10)) := (o36 _ (by omega)).trans hR10
      have hR11 : h34 (m + 5) = some (cI D 4 (gB σ 11)) := (o36 _ (by omega)).trans hR11
      have hR14 : h34 (m + 7) = some (cI D 12 (gB σ 14)) := (o36 _ (by omega)).trans hR14
      have hR15 : h34 (m + 8) = some (cI D 12 (gB σ 15)) := (o36 _ (by omega)).trans hR15
      have hR17 : h34 (m + 9) = some (cB D 16 (gB σ 17)) := (o36 _ (by omega)).trans hR17
      have hR21 : h34 (m + 10) = some (cI D 5 (f21)) := (o36 _ (by omega)).trans hR21
      have hR22 : h34 (m + 11) = some (cI D 5 (f22)) := (o36 _ (by omega)).trans hR22
      have hR31 : h34 (m + 12) = some (cI D 5 (gB σ 31)) := (o36 _ (by omega)).trans hR31
      have hR32 : h34 (m + 13) = some (cI D 4 (gB σ 32)) := (o36 _ (by omega)).trans hR32
      have hR33 : h34 (m + 14) = some (cI D 12 (gB σ 33)) := (o36 _ (by omega)).trans hR33
      have hR34 : h34 (m + 15) = some (cI D 12 (gB σ 34)) := (o36 _ (by omega)).trans hR34
      have hO : ∀ q, (q < m ∨ m + 16 ≤ q) → h34 q = h q := fun q hq => (o36 q (by omega)).trans (hO q hq)
      refine g_iinc C (v := 3) 0 ([(1, .int (3)), (0, .ref (m))]) dX12_restore_97 rfl (by decide) (by decide) rfl rfl ?_
      refine g_goto C dX12_restore_100 (tgt := 80) (by decide) ?_
      refine g_iload_n C 0 dX12_restore_80 rfl rfl rfl ?_
      refine g_iconst C (v := 4) dX12_restore_81 (by decide) rfl ?_
      refine g_icmp_ge C dX12_restore_82 (tgt := 103) (by decide) (pc' := 85) rfl (fun c82 => absurd c82 (by decide)) (fun _ => ?_)
      refine g_aload_n C 1 dX12_restore_85 rfl rfl rfl ?_
      refine gf_12_25 C (hMo) (v := .ref (m + 6)) rfl dX12_restore_86 rfl ?_
      refine g_iload_n C 0 dX12_restore_89 rfl rfl rfl ?_
      refine g_aload_n C 1 dX12_restore_90 rfl rfl rfl ?_
      refine gf_12_47 C (hMo) (v := .ref (m + 13)) rfl dX12_restore_91 rfl ?_
      refine g_iload_n C 0 dX12_restore_94 rfl rfl rfl ?_
      refine g_iald' C (hR32) (j := 3) rfl (by omega) (by decide) dX12_restore_95 rfl ?_
      refine g_iast' C (hR12) (j := 3) rfl (by omega) (by decide) dX12_restore_96 (pc' := 97) rfl (fun h37 e38 o39 => ?_)
      have hR12 : h37 (m + 6) = some (cI D 4 (upd (upd (upd (upd (gB σ 12) (0) (gB σ 32 (0))) (1) (gB σ 32 (1))) (2) (gB σ 32 (2))) (3) (gB σ 32 (3)))) := e38
      have hMo : h37 (m) = some (.inr (12, [.int (nI (gN σ 0)), .int (nI (gN σ 1)), .ref (m + 1), .int (nI (gN σ 3)), .int (nI (gN σ 4)), .int (gI σ 27), .int (nI (gN σ 28)), .ref (m + 2), .int (nI (gN σ 29)), .ref (m + 3), .ref (m + 4), .ref (m + 5), .ref (m + 6), .int (nI (gN σ 30)), .ref (m + 7), .ref (m + 8), .int (nI (gN σ 16)), .ref (m + 9), .long (s18), .int (s19), .int (s20), .ref (m + 10), .ref (m + 11), .int (s23), .int (s24), .int (nI (gN σ 25)), .int (nI (gN σ 26)), .int (gI σ 27), .int (nI (gN σ 28)), .int (nI (gN σ 29)), .int (nI (gN σ 30)), .ref (m + 12), .ref (m + 13), .ref (m + 14), .ref (m + 15), .long (s35)])) := (o39 _ (by omega)).trans hMo
      have hR2 : h37 (m + 1) = some (cI D 9 (tnS σ)) := (o39 _ (by omega)).trans hR2
      have hR7 : h37 (m + 2) = some (cI D 5 (upd (upd (upd (upd (upd (gB σ 7) (0) (gB σ 31 (0))) (1) (gB σ 31 (1))) (2) (gB σ 31 (2))) (3) (gB σ 31 (3))) (4) (gB σ 31 (4)))) := (o39 _ (by omega)).trans hR7
      have hR9 : h37 (m + 3) = some (cI D 4 (kdS σ)) := (o39 _ (by omega)).trans hR9
      have hR10 : h37 (m + 4) = some (cI D 4 (gB σ 10)) := (o39 _ (by omega)).trans hR10
      have hR11 : h37 (m + 5) = some (cI D 4 (gB σ 11)) := (o39 _ (by omega)).trans hR11
      have hR14 : h37 (m + 7) = some (cI D 12 (gB σ 14)) := (o39 _ (by omega)).trans hR14
      have hR15 : h37 (m + 8) = some (cI D 12 (gB σ 15)) := (o39 _ (by omega)).trans hR15
      have hR17 : h37 (m + 9) = some (cB D 16 (gB σ 17)) := (o39 _ (by omega)).trans hR17
      have hR21 : h37 (m + 10) = some (cI D 5 (f21)) := (o39 _ (by omega)).trans hR21
      have hR22 : h37 (m + 11) = some (cI D 5 (f22)) := (o39 _ (by omega)).trans hR22
      have hR31 : h37 (m + 12) = some (cI D 5 (gB σ 31)) := (o39 _ (by omega)).trans hR31
      have hR32 : h37 (m + 13) = some (cI D 4 (gB σ 32)) := (o39 _ (by omega)).trans hR32
      have hR33 : h37 (m + 14) = some (cI D 12 (gB σ 33)) := (o39 _ (by omega)).trans hR33
      have hR34 : h37 (m + 15) = some (cI D 12 (gB σ 34)) := (o39 _ (by omega)).trans hR34
      have hO : ∀ q, (q < m ∨ m + 16 ≤ q) → h37 q = h q := fun q hq => (o39 q (by omega)).trans (hO q hq)
      refine g_iinc C (v := 4) 0 ([(1, .int (4)), (0, .ref (m))]) dX12_restore_97 rfl (by decide) (by decide) rfl rfl ?_
      refine g_goto C dX12_restore_100 (tgt := 80) (by decide) ?_
      refine g_iload_n C 0 dX12_restore_80 rfl rfl rfl ?_
      refine g_iconst C (v := 4) dX12_restore_81 (by decide) rfl ?_
      refine g_icmp_ge C dX12_restore_82 (tgt := 103) (by decide) (pc' := 85) rfl (fun _ => ?_) (fun c82 => absurd (by decide) c82)
      refine g_iconst C (v := 0) dX12_restore_103 (by decide) rfl ?_
      refine g_istore_n C ([(1, .int (0)), (0, .ref (m))]) dX12_restore_104 rfl (by decide) rfl rfl ?_
      refine g_iload_n C 0 dX12_restore_105 rfl rfl rfl ?_
      refine g_bipush C (v := 12) dX12_restore_106 (by decide) rfl ?_
      refine g_icmp_ge C dX12_restore_108 (tgt := 141) (by decide) (pc' := 111) rfl (fun c108 => absurd c108 (by decide)) (fun _ => ?_)
      refine g_aload_n C 1 dX12_restore_111 rfl rfl rfl ?_
      refine gf_12_28 C (hMo) (v := .ref (m + 7)) rfl dX12_restore_112 rfl ?_
      refine g_iload_n C 0 dX12_restore_115 rfl rfl rfl ?_
      refine g_aload_n C 1 dX12_restore_116 rfl rfl rfl ?_
      refine gf_12_50 C (hMo) (v := .ref (m + 14)) rfl dX12_restore_117 rfl ?_
      refine g_iload_n C 0 dX12_restore_120 rfl rfl rfl ?_
      refine g_iald' C (hR33) (j := 0) rfl (by omega) (by decide) dX12_restore_121 rfl ?_
      refine g_iast' C (hR14) (j := 0) rfl (by omega) (by decide) dX12_restore_122 (pc' := 123) rfl (fun h40 e41 o42 => ?_)
      have hR14 : h40 (m + 7) = some (cI D 12 (upd (gB σ 14) (0) (gB σ 33 (0)))) := e41
      have hMo : h40 (m) = some (.inr (12, [.int (nI (gN σ 0)), .int (nI (gN σ 1)), .ref (m + 1), .int (nI (gN σ 3)), .int (nI (gN σ 4)), .int (gI σ 27), .int (nI (gN σ 28)), .ref (m + 2), .int (nI (gN σ 29)), .ref (m + 3), .ref (m + 4), .ref (m + 5), .ref (m + 6), .int (nI (gN σ 30)), .ref (m + 7), .ref (m + 8), .int (nI (gN σ 16)), .ref (m + 9), .long (s18), .int (s19), .int (s20), .ref (m + 10), .ref (m + 11), .int (s23), .int (s24), .int (nI (gN σ 25)), .int (nI (gN σ 26)), .int (gI σ 27), .int (nI (gN σ 28)), .int (nI (gN σ 29)), .int (nI (gN σ 30)), .ref (m + 12), .ref (m + 13), .ref (m + 14), .ref (m + 15), .long (s35)])) := (o42 _ (by omega)).trans hMo
      have hR2 : h40 (m + 1) = some (cI D 9 (tnS σ)) := (o42 _ (by omega)).trans hR2
      have hR7 : h40 (m + 2) = some (cI D 5 (upd (upd (upd (upd (upd (gB σ 7) (0) (gB σ 31 (0))) (1) (gB σ 31 (1))) (2) (gB σ 31 (2))) (3) (gB σ 31 (3))) (4) (gB σ 31 (4)))) := (o42 _ (by omega)).trans hR7
      have hR9 : h40 (m + 3) = some (cI D 4 (kdS σ)) := (o42 _ (by omega)).trans hR9
      have hR10 : h40 (m + 4) = some (cI D 4 (gB σ 10)) := (o42 _ (by omega)).trans hR10
      have hR11 : h40 (m + 5) = some (cI D 4 (gB σ 11)) := (o42 _ (by omega)).trans hR11
      have hR12 : h40 (m + 6) = some (cI D 4 (upd (upd (upd (upd (gB σ 12) (0) (gB σ 32 (0))) (1) (gB σ 32 (1))) (2) (gB σ 32 (2))) (3) (gB σ 32 (3)))) := (o42 _ (by omega)).trans hR12
      have hR15 : h40 (m + 8) = some (cI D 12 (gB σ 15)) := (o42 _ (by omega)).trans hR15
      have hR17 : h40 (m + 9) = some (cB D 16 (gB σ 17)) := (o42 _ (by omega)).trans hR17
      have hR21 : h40 (m + 10) = some (cI D 5 (f21)) := (o42 _ (by omega)).trans hR21
      have hR22 : h40 (m + 11) = some (cI D 5 (f22)) := (o42 _ (by omega)).trans hR22
      have hR31 : h40 (m + 12) = some (cI D 5 (gB σ 31)) := (o42 _ (by omega)).trans hR31
      have hR32 : h40 (m + 13) = some (cI D 4 (gB σ 32)) := (o42 _ (by omega)).trans hR32
      have hR33 : h40 (m + 14) = some (cI D 12 (gB σ 33)) := (o42 _ (by omega)).trans hR33
      have hR34 : h40 (m + 15) = some (cI D 12 (gB σ 34)) := (o42 _ (by omega)).trans hR34
      have hO : ∀ q, (q < m ∨ m + 16 ≤ q) → h40 q = h q := fun q hq => (o42 q (by omega)).trans (hO q hq)
      refine g_aload_n C 1 dX12_restore_123 rfl rfl rfl ?_
      refine gf_12_31 C (hMo) (v := .ref (m + 8)) rfl dX12_restore_124 rfl ?_
      refine g_iload_n C 0 dX12_restore_127 rfl rfl rfl ?_
      refine g_aload_n C 1 dX12_restore_128 rfl rfl rfl ?_
      refine gf_12_53 C (hMo) (v := .ref (m + 15)) rfl dX12_restore_129 rfl ?_
      refine g_iload_n C 0 dX12_restore_132 rfl rfl rfl ?_
      refine g_iald' C (hR34) (j := 0) rfl (by omega) (by decide) dX12_restore_133 rfl ?_
      refine g_iast' C (hR15) (j := 0) rfl (by omega) (by decide) dX12_restore_134 (pc' := 135) rfl (fun h43 e44 o45 => ?_)
      have hR15 : h43 (m + 8) = some (cI D 12 (upd (gB σ 15) (0) (gB σ 34 (0)))) := e44
      have hMo : h43 (m) = some (.inr (12, [.int (nI (gN σ 0)), .int (nI (gN σ 1)), .ref (m + 1), .int (nI (gN σ 3)), .int (nI (gN σ 4)), .int (gI σ 27), .int (nI (gN σ 28)), .ref (m + 2), .int (nI (gN σ 29)), .ref (m + 3), .ref (m + 4), .ref (m + 5), .ref (m + 6), .int (nI (gN σ 30)), .ref (m + 7), .ref (m + 8), .int (nI (gN σ 16)), .ref (m + 9), .long (s18), .int (s19), .int (s20), .ref (m + 10), .ref (m + 11), .int (s23), .int (s24), .int (nI (gN σ 25)), .int (nI (gN σ 26)), .int (gI σ 27), .int (nI (gN σ 28)), .int (nI (gN σ 29)), .int (nI (gN σ 30)), .ref (m + 12), .ref (m + 13), .ref (m + 14), .ref (m + 15), .long (s35)])) := (o45 _ (by omega)).trans hMo
      have hR2 : h43 (m + 1) = some (cI D 9 (tnS σ)) := (o45 _ (by omega)).trans hR2
      have hR7 : h43 (m + 2) = some (cI D 5 (upd (upd (upd (upd (upd (gB σ 7) (0) (gB σ 31 (0))) (1) (gB σ 31 (1))) (2) (gB σ 31 (2))) (3) (gB σ 31 (3))) (4) (gB σ 31 (4)))) := (o45 _ (by omega)).trans hR7
      have hR9 : h43 (m + 3) = some (cI D 4 (kdS σ)) := (o45 _ (by omega)).trans hR9
      have hR10 : h43 (m + 4) = some (cI D 4 (gB σ 10)) := (o45 _ (by omega)).trans hR10
      have hR11 : h43 (m + 5) = some (cI D 4 (gB σ 11)) := (o45 _ (by omega)).trans hR11
      have hR12 : h43 (m + 6) = some (cI D 4 (upd (upd (upd (upd (gB σ 12) (0) (gB σ 32 (0))) (1) (gB σ 32 (1))) (2) (gB σ 32 (2))) (3) (gB σ 32 (3)))) := (o45 _ (by omega)).trans hR12
      have hR14 : h43 (m + 7) = some (cI D 12 (upd (gB σ 14) (0) (gB σ 33 (0)))) := (o45 _ (by omega)).trans hR14
      have hR17 : h43 (m + 9) = some (cB D 16 (gB σ 17)) := (o45 _ (by omega)).trans hR17
      have hR21 : h43 (m + 10) = some (cI D 5 (f21)) := (o45 _ (by omega)).trans hR21
      have hR22 : h43 (m + 11) = some (cI D 5 (f22)) := (o45 _ (by omega)).trans hR22
      have hR31 : h43 (m + 12) = some (cI D 5 (gB σ 31)) := (o45 _ (by omega)).trans hR31
      have hR32 : h43 (m + 13) = some (cI D 4 (gB σ 32)) := (o45 _ (by omega)).trans hR32
      have hR33 : h43 (m + 14) = some (cI D 12 (gB σ 33)) := (o45 _ (by omega)).trans hR33
      have hR34 : h43 (m + 15) = some (cI D 12 (gB σ 34)) := (o45 _ (by omega)).trans hR34
      have hO : ∀ q, (q < m ∨ m + 16 ≤ q) → h43 q = h q := fun q hq => (o45 q (by omega)).trans (hO q hq)
      refine g_iinc C (v := 1) 0 ([(1, .int (1)), (0, .ref (m))]) dX12_restore_135 rfl (by decide) (by decide) rfl rfl ?_
      refine g_goto C dX12_restore_138 (tgt := 105) (by decide) ?_
      refine g_iload_n C 0 dX12_restore_105 rfl rfl rfl ?_
      refine g_bipush C (v := 12) dX12_restore_106 (by decide) rfl ?_
      refine g_icmp_ge C dX12_restore_108 (tgt := 141) (by decide) (pc' := 111) rfl (fun c108 => absurd c108 (by decide)) (fun _ => ?_)
      refine g_aload_n C 1 dX12_restore_111 rfl rfl rfl ?_
      refine gf_12_28 C (hMo) (v := .ref (m + 7)) rfl dX12_restore_112 rfl ?_
      refine g_iload_n C 0 dX12_restore_115 rfl rfl rfl ?_
      refine g_aload_n C 1 dX12_restore_116 rfl rfl rfl ?_
      refine gf_12_50 C (hMo) (v := .ref (m + 14)) rfl dX12_restore_117 rfl ?_
      refine g_iload_n C 0 dX12_restore_120 rfl rfl rfl ?_
      refine g_iald' C (hR33) (j := 1) rfl (by omega) (by decide) dX12_restore_121 rfl ?_
      refine g_iast' C (hR14) (j := 1) rfl (by omega) (by decide) dX12_restore_122 (pc' := 123) rfl (fun h46 e47 o48 => ?_)
      have hR14 : h46 (m + 7) = some (cI D 12 (upd (upd (gB σ 14) (0) (gB σ 33 (0))) (1) (gB σ 33 (1)))) := e47
      have hMo : h46 (m) = some (.inr (12, [.int (nI (gN σ 0)), .int (nI (gN σ 1)), .ref (m + 1), .int (nI (gN σ 3)), .int (nI (gN σ 4)), .int (gI σ 27), .int (nI (gN σ 28)), .ref (m + 2), .int (nI (gN σ 29)), .ref (m + 3), .ref (m + 4), .ref (m + 5), .ref (m + 6), .int (nI (gN σ 30)), .ref (m + 7), .ref (m + 8), .int (nI (gN σ 16)), .ref (m + 9), .long (s18), .int (s19), .int (s20), .ref (m + 10), .ref (m + 11), .int (s23), .int (s24), .int (nI (gN σ 25)), .int (nI (gN σ 26)), .int (gI σ 27), .int (nI (gN σ 28)), .int (nI (gN σ 29)), .int (nI (gN σ 30)), .ref (m + 12), .ref (m + 13), .ref (m + 14), .ref (m + 15), .long (s35)])) := (o48 _ (by omega)).trans hMo
      have hR2 : h46 (m + 1) = some (cI D 9 (tnS σ)) := (o48 _ (by omega)).trans hR2
      have hR7 : h46 (m + 2) = some (cI D 5 (upd (upd (upd (upd (upd (gB σ 7) (0) (gB σ 31 (0))) (1) (gB σ 31 (1))) (2) (gB σ 31 (2))) (3) (gB σ 31 (3))) (4) (gB σ 31 (4)))) := (o48 _ (by omega)).trans hR7
      have hR9 : h46 (m + 3) = some (cI D 4 (kdS σ)) := (o48 _ (by omega)).trans hR9
      have hR10 : h46 (m + 4) = some (cI D 4 (gB σ 10)) := (o48 _ (by omega)).trans hR10
      have hR11 : h46 (m + 5) = some (cI D 4 (gB σ 11)) := (o48 _ (by omega)).trans hR11
      have hR12 : h46 (m + 6) = some (cI D 4 (upd (upd (upd (upd (gB σ 12) (0) (gB σ 32 (0))) (1) (gB σ 32 (1))) (2) (gB σ 32 (2))) (3) (gB σ 32 (3)))) := (o48 _ (by omega)).trans hR12
      have hR15 : h46 (m + 8) = some (cI D 12 (upd (gB σ 15) (0) (gB σ 34 (0)))) := (o48 _ (by omega)).trans hR15
      have hR17 : h46 (m + 9) = some (cB D 16 (gB σ 17)) := (o48 _ (by omega)).trans hR17
      have hR21 : h46 (m + 10) = some (cI D 5 (f21)) := (o48 _ (by omega)).trans hR21
      have hR22 : h46 (m + 11) = some (cI D 5 (f22)) := (o48 _ (by omega)).trans hR22
      have hR31 : h46 (m + 12) = some (cI D 5 (gB σ 31)) := (o48 _ (by omega)).trans hR31
      have hR32 : h46 (m + 13) = some (cI D 4 (gB σ 32)) := (o48 _ (by omega)).trans hR32
      have hR33 : h46 (m + 14) = some (cI D 12 (gB σ 33)) := (o48 _ (by omega)).trans hR33
      have hR34 : h46 (m + 15) = some (cI D 12 (gB σ 34)) := (o48 _ (by omega)).trans hR34
      have hO : ∀ q, (q < m ∨ m + 16 ≤ q) → h46 q = h q := fun q hq => (o48 q (by omega)).trans (hO q hq)
      refine g_aload_n C 1 dX12_restore_123 rfl rfl rfl ?_
      refine gf_12_31 C (hMo) (v := .ref (m + 8)) rfl dX12_restore_124 rfl ?_
      refine g_iload_n C 0 dX12_restore_127 rfl rfl rfl ?_
      refine g_aload_n C 1 dX12_restore_128 rfl rfl rfl ?_
      refine gf_12_53 C (hMo) (v := .ref (m + 15)) rfl dX12_restore_129 rfl ?_
      refine g_iload_n C 0 dX12_restore_132 rfl rfl rfl ?_
      refine g_iald' C (hR34) (j := 1) rfl (by omega) (by decide) dX12_restore_133 rfl ?_
      refine g_iast' C (hR15) (j := 1) rfl (by omega) (by decide) dX12_restore_134 (pc' := 135) rfl (fun h49 e50 o51 => ?_)
      have hR15 : h49 (m + 8) = some (cI D 12 (upd (upd (gB σ 15) (0) (gB σ 34 (0))) (1) (gB σ 34 (1)))) := e50
      have hMo : h49 (m) = some (.inr (12, [.int (nI (gN σ 0)), .int (nI (gN σ 1)), .ref (m + 1), .int (nI (gN σ 3)), .int (nI (gN σ 4)), .int (gI σ 27), .int (nI (gN σ 28)), .ref (m + 2), .int (nI (gN σ 29)), .ref (m + 3), .ref (m + 4), .ref (m + 5), .ref (m + 6), .int (nI (gN σ 30)), .ref (m + 7), .ref (m + 8), .int (nI (gN σ 16)), .ref (m + 9), .long (s18), .int (s19), .int (s20), .ref (m + 10), .ref (m + 11), .int (s23), .int (s24), .int (nI (gN σ 25)), .int (nI (gN σ 26)), .int (gI σ 27), .int (nI (gN σ 28)), .int (nI (gN σ 29)), .int (nI (gN σ 30)), .ref (m + 12), .ref (m + 13), .ref (m + 14), .ref (m + 15), .long (s35)])) := (o51 _ (by omega)).trans hMo
      have hR2 : h49 (m + 1) = some (cI D 9 (tnS σ)) := (o51 _ (by omega)).trans hR2
      have hR7 : h49 (m + 2) = some (cI D 5 (upd (upd (upd (upd (upd (gB σ 7) (0) (gB σ 31 (0))) (1) (gB σ 31 (1))) (2) (gB σ 31 (2))) (3) (gB σ 31 (3))) (4) (gB σ 31 (4)))) := (o51 _ (by omega)).trans hR7
      have hR9 : h49 (m + 3) = some (cI D 4 (kdS σ)) := (o51 _ (by omega)).trans hR9
      have hR10 : h49 (m + 4) = some (cI D 4 (gB σ 10)) := (o51 _ (by omega)).trans hR10
      have hR11 : h49 (m + 5) = some (cI D 4 (gB σ 11)) := (o51 _ (by omega)).trans hR11
      have hR12 : h49 (m + 6) = some (cI D 4 (upd (upd (upd (upd (gB σ 12) (0) (gB σ 32 (0))) (1) (gB σ 32 (1))) (2) (gB σ 32 (2))) (3) (gB σ 32 (3)))) := (o51 _ (by omega)).trans hR12
      have hR14 : h49 (m + 7) = some (cI D 12 (upd (upd (gB σ 14) (0) (gB σ 33 (0))) (1) (gB σ 33 (1)))) := (o51 _ (by omega)).trans hR14
      have hR17 : h49 (m + 9) = some (cB D 16 (gB σ 17)) := (o51 _ (by omega)).trans hR17
      have hR21 : h49 (m + 10) = some (cI D 5 (f21)) := (o51 _ (by omega)).trans hR21
      have hR22 : h49 (m + 11) = some (cI D 5 (f22)) := (o51 _ (by omega)).trans hR22
      have hR31 : h49 (m + 12) = some (cI D 5 (gB σ 31)) := (o51 _ (by omega)).trans hR31
      have hR32 : h49 (m + 13) = some (cI D 4 (gB σ 32)) := (o51 _ (by omega)).trans hR32
      have hR33 : h49 (m + 14) = some (cI D 12 (gB σ 33)) := (o51 _ (by omega)).trans hR33
      have hR34 : h49 (m + 15) = some (cI D 12 (gB σ 34)) := (o51 _ (by omega)).trans hR34
      have hO : ∀ q, (q < m ∨ m + 16 ≤ q) → h49 q = h q := fun q hq => (o51 q (by omega)).trans (hO q hq)
      refine g_iinc C (v := 2) 0 ([(1, .int (2)), (0, .ref (m))]) dX12_restore_135 rfl (by decide) (by decide) rfl rfl ?_
      refine g_goto C dX12_restore_138 (tgt := 105) (by decide) ?_
      refine g_iload_n C 0 dX12_restore_105 rfl rfl rfl ?_
      refine g_bipush C (v := 12) dX12_restore_106 (by decide) rfl ?_
      refine g_icmp_ge C dX12_restore_108 (tgt := 141) (by decide) (pc' := 111) rfl (fun c108 => absurd c108 (by decide)) (fun _ => ?_)
      refine g_aload_n C 1 dX12_restore_111 rfl rfl rfl ?_
      refine gf_12_28 C (hMo) (v := .ref (m + 7)) rfl dX12_restore_112 rfl ?_
      refine g_iload_n C 0 dX12_restore_115 rfl rfl rfl ?_
      refine g_aload_n C 1 dX12_restore_116 rfl rfl rfl ?_
      refine gf_12_50 C (hMo) (v := .ref (m + 14)) rfl dX12_restore_117 rfl ?_
      refine g_iload_n C 0 dX12_restore_120 rfl rfl rfl ?_
      refine g_iald' C (hR33) (j := 2) rfl (by omega) (by decide) dX12_restore_121 rfl ?_
      refine g_iast' C (hR14) (j := 2) rfl (by omega) (by decide) dX12_restore_122 (pc' := 123) rfl (fun h52 e53 o54 => ?_)
      have hR14 : h52 (m + 7) = some (cI D 12 (upd (upd (upd (gB σ 14) (0) (gB σ 33 (0))) (1) (gB σ 33 (1))) (2) (gB σ 33 (2)))) := e53
      have hMo : h52 (m) = some (.inr (12, [.int (nI (gN σ 0)), .int (nI (gN σ 1)), .ref (m + 1), .int (nI (gN σ 3)), .int (nI (gN σ 4)), .int (gI σ 27), .int (nI (gN σ 28)), .ref (m + 2), .int (nI (gN σ 29)), .ref (m + 3), .ref (m + 4), .ref (m + 5), .ref (m + 6), .int (nI (gN σ 30)), .ref (m + 7), .ref (m + 8), .int (nI (gN σ 16)), .ref (m + 9), .long (s18), .int (s19), .int (s20), .ref (m + 10), .ref (m + 11), .int (s23), .int (s24), .int (nI (gN σ 25)), .int (nI (gN σ 26)), .int (gI σ 27), .int (nI (gN σ 28)), .int (nI (gN σ 29)), .int (nI (gN σ 30)), .ref (m + 12), .ref (m + 13), .ref (m + 14), .ref (m + 15), .long (s35)])) := (o54 _ (by omega)).trans hMo
      have hR2 : h52 (m + 1) = some (cI D 9 (tnS σ)) := (o54 _ (by omega)).trans hR2
      have hR7 : h52 (m + 2) = some (cI D 5 (upd (upd (upd (upd (upd (gB σ 7) (0) (gB σ 31 (0))) (1) (gB σ 31 (1))) (2) (gB σ 31 (2))) (3) (gB σ 31 (3))) (4) (gB σ 31 (4)))) := (o54 _ (by omega)).trans hR7
      have hR9 : h52 (m + 3) = some (cI D 4 (kdS σ)) := (o54 _ (by omega)).trans hR9
      have hR10 : h52 (m + 4) = some (cI D 4 (gB σ 10)) := (o54 _ (by omega)).trans hR10
      have hR11 : h52 (m + 5) = some (cI D 4 (gB σ 11)) := (o54 _ (by omega)).trans hR11
      have hR12 : h52 (m + 6) = some (cI D 4 (upd (upd (upd (upd (gB σ 12) (0) (gB σ 32 (0))) (1) (gB σ 32 (1))) (2) (gB σ 32 (2))) (3) (gB σ 32 (3)))) := (o54 _ (by omega)).trans hR12
      have hR15 : h52 (m + 8) = some (cI D 12 (upd (upd (gB σ 15) (0) (gB σ 34 (0))) (1) (gB σ 34 (1)))) := (o54 _ (by omega)).trans hR15
      have hR17 : h52 (m + 9) = some (cB D 16 (gB σ 17)) := (o54 _ (by omega)).trans hR17
      have hR21 : h52 (m + 10) = some (cI D 5 (f21)) := (o54 _ (by omega)).trans hR21
      have hR22 : h52 (m + 11) = some (cI D 5 (f22)) := (o54 _ (by omega)).trans hR22
      have hR31 : h52 (m + 12) = some (cI D 5 (gB σ 31)) := (o54 _ (by omega)).trans hR31
      have hR32 : h52 (m + 13) = some (cI D 4 (gB σ 32)) := (o54 _ (by omega)).trans hR32
      have hR33 : h52 (m + 14) = some (cI D 12 (gB σ 33)) := (o54 _ (by omega)).trans hR33
      have hR34 : h52 (m + 15) = some (cI D 12 (gB σ 34)) := (o54 _ (by omega)).trans hR34
      have hO : ∀ q, (q < m ∨ m + 16 ≤ q) → h52 q = h q := fun q hq => (o54 q (by omega)).trans (hO q hq)
      refine g_aload_n C 1 dX12_restore_123 rfl rfl rfl ?_
      refine gf_12_31 C (hMo) (v := .ref (m + 8)) rfl dX12_restore_124 rfl ?_
      refine g_iload_n C 0 dX12_restore_127 rfl rfl rfl ?_
      refine g_aload_n C 1 dX12_restore_128 rfl rfl rfl ?_
      refine gf_12_53 C (hMo) (v := .ref (m + 15)) rfl dX12_restore_129 rfl ?_
      refine g_iload_n C 0 dX12_restore_132 rfl rfl rfl ?_
      refine g_iald' C (hR34) (j := 2) rfl (by omega) (by decide) dX12_restore_133 rfl ?_
      refine g_iast' C (hR15) (j := 2) rfl (by omega) (by decide) dX12_restore_134 (pc' := 135) rfl (fun h55 e56 o57 => ?_)
      have hR15 : h55 (m + 8) = some (cI D 12 (upd (upd (upd (gB σ 15) (0) (gB σ 34 (0))) (1) (gB σ 34 (1))) (2) (gB σ 34 (2)))) := e56
      have hMo : h55 (m) = some (.inr (12, [.int (nI (gN σ 0)), .int (nI (gN σ 1)), .ref (m + 1), .int (nI (gN σ 3)), .int (nI (gN σ 4)), .int (gI σ 27), .int (nI (gN σ 28)), .ref (m + 2), .int (nI (gN σ 29)), .ref (m + 3), .ref (m + 4), .ref (m + 5), .ref (m + 6), .int (nI (gN σ 30)), .ref (m + 7), .ref (m + 8), .int (nI (gN σ 16)), .ref (m + 9), .long (s18), .int (s19), .int (s20), .ref (m + 10), .ref (m + 11), .int (s23), .int (s24), .int (nI (gN σ 25)), .int (nI (gN σ 26)), .int (gI σ 27), .int (nI (gN σ 28)), .int (nI (gN σ 29)), .int (nI (gN σ 30)), .ref (m + 12), .ref (m + 13), .ref (m + 14), .ref (m + 15), .long (s35)])) := (o57 _ (by omega)).trans hMo
      have hR2 : h55 (m + 1) = some (cI D 9 (tnS σ)) := (o57 _ (by omega)).trans hR2
      have hR7 : h55 (m + 2) = some (cI D 5 (upd (upd (upd (upd (upd (gB σ 7) (0) (gB σ 31 (0))) (1) (gB σ 31 (1))) (2) (gB σ 31 (2))) (3) (gB σ 31 (3))) (4) (gB σ 31 (4)))) := (o57 _ (by omega)).trans hR7
      have hR9 : h55 (m + 3) = some (cI D 4 (kdS σ)) := (o57 _ (by omega)).trans hR9
      have hR10 : h55 (m + 4) = some (cI D 4 (gB σ 10)) := (o57 _ (by omega)).trans hR10
      have hR11 : h55 (m + 5) = some (cI D 4 (gB σ 11)) := (o57 _ (by omega)).trans hR11
      have hR12 : h55 (m + 6) = some (cI D 4 (upd (upd (upd (upd (gB σ 12) (0) (gB σ 32 (0))) (1) (gB σ 32 (1))) (2) (gB σ 32 (2))) (3) (gB σ 32 (3)))) := (o57 _ (by omega)).trans hR12
      have hR14 : h55 (m + 7) = some (cI D 12 (upd (upd (upd (gB σ 14) (0) (gB σ 33 (0))) (1) (gB σ 33 (1))) (2) (gB σ 33 (2)))) := (o57 _ (by omega)).trans hR14
      have hR17 : h55 (m + 9) = some (cB D 16 (gB σ 17)) := (o57 _ (by omega)).trans hR17
      have hR21 : h55 (m + 10) = some (cI D 5 (f21)) := (o57 _ (by omega)).trans hR21
      have hR22 : h55 (m + 11) = some (cI D 5 (f22)) := (o57 _ (by omega)).trans hR22
      have hR31 : h55 (m + 12) = some (cI D 5 (gB σ 31)) := (o57 _ (by omega)).trans hR31
      have hR32 : h55 (m + 13) = some (cI D 4 (gB σ 32)) := (o57 _ (by omega)).trans hR32
      have hR33 : h55 (m + 14) = some (cI D 12 (gB σ 33)) := (o57 _ (by omega)).trans hR33
      have hR34 : h55 (m + 15) = some (cI D 12 (gB σ 34)) := (o57 _ (by omega)).trans hR34
      have hO : ∀ q, (q < m ∨ m + 16 ≤ q) → h55 q = h q := fun q hq => (o57 q (by omega)).trans (hO q hq)
      refine g_iinc C (v := 3) 0 ([(1, .int (3)), (0, .ref (m))]) dX12_restore_135 rfl (by decide) (by decide) rfl rfl ?_
      refine g_goto C dX12_restore_138 (tgt := 105) (by decide) ?_
      refine g_iload_n C 0 dX12_restore_105 rfl rfl rfl ?_
      refine g_bipush C (v := 12) dX12_restore_106 (by decide) rfl ?_
      refine g_icmp_ge C dX12_restore_108 (tgt := 141) (by decide) (pc' := 111) rfl (fun c108 => absurd c108 (by decide)) (fun _ => ?_)
      refine g_aload_n C 1 dX12_restore_111 rfl rfl rfl ?_
      refine gf_12_28 C (hMo) (v := .ref (m + 7)) rfl dX12_restore_112 rfl ?_
      refine g_iload_n C 0 dX12_restore_115 rfl rfl rfl ?_
      refine g_aload_n C 1 dX12_restore_116 rfl rfl rfl ?_
      refine gf_12_50 C (hMo) (v := .ref (m + 14)) rfl dX12_restore_117 rfl ?_
      refine g_iload_n C 0 dX12_restore_120 rfl rfl rfl ?_
      refine g_iald' C (hR33) (j := 3) rfl (by omega) (by decide) dX12_restore_121 rfl ?_
      refine g_iast' C (hR14) (j := 3) rfl (by omega) (by decide) dX12_restore_122 (pc' := 123) rfl (fun h58 e59 o60 => ?_)
      have hR14 : h58 (m + 7) = some (cI D 12 (upd (upd (upd (upd (gB σ 14) (0) (gB σ 33 (0))) (1) (gB σ 33 (1))) (2) (gB σ 33 (2))) (3) (gB σ 33 (3)))) := e59
      have hMo : h58 (m) = some (.inr (12, [.int (nI (gN σ 0)), .int (nI (gN σ 1)), .ref (m + 1), .int (nI (gN σ 3)), .int (nI (gN σ 4)), .int (gI σ 27), .int (nI (gN σ 28)), .ref (m + 2), .int (nI (gN σ 29)), .ref (m + 3), .ref (m + 4), .ref (m + 5), .ref (m + 6), .int (nI (gN σ 30)), .ref (m + 7), .ref (m + 8), .int (nI (gN σ 16)), .ref (m + 9), .long (s18), .int (s19), .int (s20), .ref (m + 10), .ref (m + 11), .int (s23), .int (s24), .int (nI (gN σ 25)), .int (nI (gN σ 26)), .int (gI σ 27), .int (nI (gN σ 28)), .int (nI (gN σ 29)), .int (nI (gN σ 30)), .ref (m + 12), .ref (m + 13), .ref (m + 14), .ref (m + 15), .long (s35)])) := (o60 _ (by omega)).trans hMo
      have hR2 : h58 (m + 1) = some (cI D 9 (tnS σ)) := (o60 _ (by omega)).trans hR2
      have hR7 : h58 (m + 2) = some (cI D 5 (upd (upd (upd (upd (upd (gB σ 7) (0) (gB σ 31 (0))) (1) (gB σ 31 (1))) (2) (gB σ 31 (2))) (3) (gB σ 31 (3))) (4) (gB σ 31 (4)))) := (o60 _ (by omega)).trans hR7
      have hR9 : h58 (m + 3) = some (cI D 4 (kdS σ)) := (o60 _ (by omega)).trans hR9
      have hR10 : h58 (m + 4) = some (cI D 4 (gB σ 10)) := (o60 _ (by omega)).trans hR10
      have hR11 : h58 (m + 5) = some (cI D 4 (gB σ 11)) := (o60 _ (by omega)).trans hR11
      have hR12 : h58 (m + 6) = some (cI D 4 (upd (upd (upd (upd (gB σ 12) (0) (gB σ 32 (0))) (1) (gB σ 32 (1))) (2) (gB σ 32 (2))) (3) (gB σ 32 (3)))) := (o60 _ (by omega)).trans hR12
      have hR15 : h58 (m + 8) = some (cI D 12 (upd (upd (upd (gB σ 15) (0) (gB σ 34 (0))) (1) (gB σ 34 (1))) (2) (gB σ 34 (2)))) := (o60 _ (by omega)).trans hR15
      have hR17 : h58 (m + 9) = some (cB D 16 (gB σ 17)) := (o60 _ (by omega)).trans hR17
      have hR21 : h58 (m + 10) = some (cI D 5 (f21)) := (o60 _ (by omega)).trans hR21
      have hR22 : h58 (m + 11) = some (cI D 5 (f22)) := (o60 _ (by omega)).trans hR22
      have hR31 : h58 (m + 12) = some (cI D 5 (gB σ 31)) := (o60 _ (by omega)).trans hR31
      have hR32 : h58 (m + 13) = some (cI D 4 (gB σ 32)) := (o60 _ (by omega)).trans hR32
      have hR33 : h58 (m + 14) = some (cI D 12 (gB σ 33)) := (o60 _ (by omega)).trans hR33
      have hR34 : h58 (m + 15) = some (cI D 12 (gB σ 34)) := (o60 _ (by omega)).trans hR34
      have hO : ∀ q, (q < m ∨ m + 16 ≤ q) → h58 q = h q := fun q hq => (o60 q (by omega)).trans (hO q hq)
      refine g_aload_n C 1 dX12_restore_123 rfl rfl rfl ?_
      refine gf_12_31 C (hMo) (v := .ref (m + 8)) rfl dX12_restore_124 rfl ?_
      refine g_iload_n C 0 dX12_restore_127 rfl rfl rfl ?_
      refine g_aload_n C 1 dX12_restore_128 rfl rfl rfl ?_
      refine gf_12_53 C (hMo) (v := .ref (m + 15)) rfl dX12_restore_129 rfl ?_
      refine g_iload_n C 0 dX12_restore_132 rfl rfl rfl ?_
      refine g_iald' C (hR34) (j := 3) rfl (by omega) (by decide) dX12_restore_133 rfl ?_
      refine g_iast' C (hR15) (j := 3) rfl (by omega) (by decide) dX12_restore_134 (pc' := 135) rfl (fun h61 e62 o63 => ?_)
      have hR15 : h61 (m + 8) = some (cI D 12 (upd (upd (upd (upd (gB σ 15) (0) (gB σ 34 (0))) (1) (gB σ 34 (1))) (2) (gB σ 34 (2))) (3) (gB σ 34 (3)))) := e62
      have hMo : h61 (m) = some (.inr (12, [.int (nI (gN σ 0)), .int (nI (gN σ 1)), .ref (m + 1), .int (nI (gN σ 3)), .int (nI (gN σ 4)), .int (gI σ 27), .int (nI (gN σ 28)), .ref (m + 2), .int (nI (gN σ 29)), .ref (m + 3), .ref (m + 4), .ref (m + 5), .ref (m + 6), .int (nI (gN σ 30)), .ref (m + 7), .ref (m + 8), .int (nI (gN σ 16)), .ref (m + 9), .long (s18), .int (s19), .int (s20), .ref (m + 10), .ref (m + 11), .int (s23), .int (s24), .int (nI (gN σ 25)), .int (nI (gN σ 26)), .int (gI σ 27), .int (nI (gN σ 28)), .int (nI (gN σ 29)), .int (nI (gN σ 30)), .ref (m + 12), .ref (m + 13), .ref (m + 14), .ref (m + 15), .long (s35)])) := (o63 _ (by omega)).trans hMo
      have hR2 : h61 (m + 1) = some (cI D 9 (tnS σ)) := (o63 _ (by omega)).trans hR2
      have hR7 : h61 (m + 2) = some (cI D 5 (upd (upd (upd (upd (upd (gB σ 7) (0) (gB σ 31 (0))) (1) (gB σ 31 (1))) (2) (gB σ 31 (2))) (3) (gB σ 31 (3))) (4) (gB σ 31 (4)))) := (o63 _ (by omega)).trans hR7
      have hR9 : h61 (m + 3) = some (cI D 4 (kdS σ)) := (o63 _ (by omega)).trans hR9
      have hR10 : h61 (m + 4) = some (cI D 4 (gB σ 10)) := (o63 _ (by omega)).trans hR10
      have hR11 : h61 (m + 5) = some (cI D 4 (gB σ 11)) := (o63 _ (by omega)).trans hR11
      have hR12 : h61 (m + 6) = some (cI D 4 (upd (upd (upd (upd (gB σ 12) (0) (gB σ 32 (0))) (1) (gB σ 32 (1))) (2) (gB σ 32 (2))) (3) (gB σ 32 (3)))) := (o63 _ (by omega)).trans hR12
      have hR14 : h61 (m + 7) = some (cI D 12 (upd (upd (upd (upd (gB σ 14) (0) (gB σ 33 (0))) (1) (gB σ 33 (1))) (2) (gB σ 33 (2))) (3) (gB σ 33 (3)))) := (o63 _ (by omega)).trans hR14
      have hR17 : h61 (m + 9) = some (cB D 16 (gB σ 17)) := (o63 _ (by omega)).trans hR17
      have hR21 : h61 (m + 10) = some (cI D 5 (f21)) := (o63 _ (by omega)).trans hR21
      have hR22 : h61 (m + 11) = some (cI D 5 (f22)) := (o63 _ (by omega)).trans hR22
      have hR31 : h61 (m + 12) = some (cI D 5 (gB σ 31)) := (o63 _ (by omega)).trans hR31
      have hR32 : h61 (m + 13) = some (cI D 4 (gB σ 32)) := (o63 _ (by omega)).trans hR32
      have hR33 : h61 (m + 14) = some (cI D 12 (gB σ 33)) := (o63 _ (by omega)).trans hR33
      have hR34 : h61 (m + 15) = some (cI D 12 (gB σ 34)) := (o63 _ (by omega)).trans hR34
      have hO : ∀ q, (q < m ∨ m + 16 ≤ q) → h61 q = h q := fun q hq => (o63 q (by omega)).trans (hO q hq)
      refine g_iinc C (v := 4) 0 ([(1, .int (4)), (0, .ref (m))]) dX12_restore_135 rfl (by decide) (by decide) rfl rfl ?_
      refine g_goto C dX12_restore_138 (tgt := 105) (by decide) ?_
      refine g_iload_n C 0 dX12_restore_105 rfl rfl rfl ?_
      refine g_bipush C (v := 12) dX12_restore_106 (by decide) rfl ?_
      refine g_icmp_ge C dX12_restore_108 (tgt := 141) (by decide) (pc' := 111) rfl (fun c108 => absurd c108 (by decide)) (fun _ => ?_)
      refine g_aload_n C 1 dX12_restore_111 rfl rfl rfl ?_
      refine gf_12_28 C (hMo) (v := .ref (m + 7)) rfl dX12_restore_112 rfl ?_
      refine g_iload_n C 0 dX12_restore_115 rfl rfl rfl ?_
      refine g_aload_n C 1 dX12_restore_116 rfl rfl rfl ?_
      refine gf_12_50 C (hMo) (v := .ref (m + 14)) rfl dX12_restore_117 rfl ?_
      refine g_iload_n C 0 dX12_restore_120 rfl rfl rfl ?_
      refine g_iald' C (hR33) (j := 4) rfl (by omega) (by decide) dX12_restore_121 rfl ?_
      refine g_iast' C (hR14) (j := 4) rfl (by omega) (by decide) dX12_restore_122 (pc' := 123) rfl (fun h64 e65 o66 => ?_)
      have hR14 : h64 (m + 7) = some (cI D 12 (upd (upd (upd (upd (upd (gB σ 14) (0) (gB σ 33 (0))) (1) (gB σ 33 (1))) (2) (gB σ 33 (2))) (3) (gB σ 33 (3))) (4) (gB σ 33 (4)))) := e65
      have hMo : h64 (m) = some (.inr (12, [.int (nI (gN σ 0)), .int (nI (gN σ 1)), .ref (m + 1), .int (nI (gN σ 3)), .int (nI (gN σ 4)), .int (gI σ 27), .int (nI (gN σ 28)), .ref (m + 2), .int (nI (gN σ 29)), .ref (m + 3), .ref (m + 4), .ref (m + 5), .ref (m + 6), .int (nI (gN σ 30)), .ref (m + 7), .ref (m + 8), .int (nI (gN σ 16)), .ref (m + 9), .long (s18), .int (s19), .int (s20), .ref (m + 10), .ref (m + 11), .int (s23), .int (s24), .int (nI (gN σ 25)), .int (nI (gN σ 26)), .int (gI σ 27), .int (nI (gN σ 28)), .int (nI (gN σ 29)), .int (nI (gN σ 30)), .ref (m + 12), .ref (m + 13), .ref (m + 14), .ref (m + 15), .long (s35)])) := (o66 _ (by omega)).trans hMo
      have hR2 : h64 (m + 1) = some (cI D 9 (tnS σ)) := (o66 _ (by omega)).trans hR2
      have hR7 : h64 (m + 2) = some (cI D 5 (upd (upd (upd (upd (upd (gB σ 7) (0) (gB σ 31 (0))) (1) (gB σ 31 (1))) (2) (gB σ 31 (2))) (3) (gB σ 31 (3))) (4) (gB σ 31 (4)))) := (o66 _ (by omega)).trans hR7
      have hR9 : h64 (m + 3) = some (cI D 4 (kdS σ)) := (o66 _ (by omega)).trans hR9
      have hR10 : h64 (m + 4) = some (cI D 4 (gB σ 10)) := (o66 _ (by omega)).trans hR10
      have hR11 : h64 (m + 5) = some (cI D 4 (gB σ 11)) := (o66 _ (by omega)).trans hR11
      have hR12 : h64 (m + 6) = some (cI D 4 (upd (upd (upd (upd (gB σ 12) (0) (gB σ 32 (0))) (1) (gB σ 32 (1))) (2) (gB σ 32 (2))) (3) (gB σ 32 (3)))) := (o66 _ (by omega)).trans hR12
      have hR15 : h64 (m + 8) = some (cI D 12 (upd (upd (upd (upd (gB σ 15) (0) (gB σ 34 (0))) (1) (gB σ 34 (1))) (2) (gB σ 34 (2))) (3) (gB σ 34 (3)))) := (o66 _ (by omega)).trans hR15
      have hR17 : h64 (m + 9) = some (cB D 16 (gB σ 17)) := (o66 _ (by omega)).trans hR17
      have hR21 : h64 (m + 10) = some (cI D 5 (f21)) := (o66 _ (by omega)).trans hR21
      have hR22 : h64 (m + 11) = some (cI D 5 (f22)) := (o66 _ (by omega)).trans hR22
      have hR31 : h64 (m + 12) = some (cI D 5 (gB σ 31)) := (o66 _ (by omega)).trans hR31
      have hR32 : h64 (m + 13) = some (cI D 4 (gB σ 32)) := (o66 _ (by omega)).trans hR32
      have hR33 : h64 (m + 14) = some (cI D 12 (gB σ 33)) := (o66 _ (by omega)).trans hR33
      have hR34 : h64 (m + 15) = some (cI D 12 (gB σ 34)) := (o66 _ (by omega)).trans hR34
      have hO : ∀ q, (q < m ∨ m + 16 ≤ q) → h64 q = h q := fun q hq => (o66 q (by omega)).trans (hO q hq)
      refine g_aload_n C 1 dX12_restore_123 rfl rfl rfl ?_
      refine gf_12_31 C (hMo) (v := .ref (m + 8)) rfl dX12_restore_124 rfl ?_
      refine g_iload_n C 0 dX12_restore_127 rfl rfl rfl ?_
      refine g_aload_n C 1 dX12_restore_128 rfl rfl rfl ?_
      refine gf_12_53 C (hMo) (v := .ref (m + 15)) rfl dX12_restore_129 rfl ?_
      refine g_iload_n C 0 dX12_restore_132 rfl rfl rfl ?_
      refine g_iald' C (hR34) (j := 4) rfl (by omega) (by decide) dX12_restore_133 rfl ?_
      refine g_iast' C (hR15) (j := 4) rfl (by omega) (by decide) dX12_restore_134 (pc' := 135) rfl (fun h67 e68 o69 => ?_)
      have hR15 : h67 (m + 8) = some (cI D 12 (upd (upd (upd (upd (upd (gB σ 15) (0) (gB σ 34 (0))) (1) (gB σ 34 (1))) (2) (gB σ 34 (2))) (3) (gB σ 34 (3))) (4) (gB σ 34 (4)))) := e68
      have hMo : h67 (m) = some (.inr (12, [.int (nI (gN σ 0)), .int (nI (gN σ 1)), .ref (m + 1), .int (nI (gN σ 3)), .int (nI (gN σ 4)), .int (gI σ 27), .int (nI (gN σ 28)), .ref (m + 2), .int (nI (gN σ 29)), .ref (m + 3), .ref (m + 4), .ref (m + 5), .ref (m + 6), .int (nI (gN σ 30)), .ref (m + 7), .ref (m + 8), .int (nI (gN σ 16)), .ref (m + 9), .long (s18), .int (s19), .int (s20), .ref (m + 10), .ref (m + 11), .int (s23), .int (s24), .int (nI (gN σ 25)), .int (nI (gN σ 26)), .int (gI σ 27), .int (nI (gN σ 28)), .int (nI (gN σ 29)), .int (nI (gN σ 30)), .ref (m + 12), .ref (m + 13), .ref (m + 14), .ref (m + 15), .long (s35)])) := (o69 _ (by omega)).trans hMo
      have hR2 : h67 (m + 1) = some (cI D 9 (tnS σ)) := (o69 _ (by omega)).trans hR2
      have hR7 : h67 (m + 2) = some (cI D 5 (upd (upd (upd (upd (upd (gB σ 7) (0) (gB σ 31 (0))) (1) (gB σ 31 (1))) (2) (gB σ 31 (2))) (3) (gB σ 31 (3))) (4) (gB σ 31 (4)))) := (o69 _ (by omega)).trans hR7
      have hR9 : h67 (m + 3) = some (cI D 4 (kdS σ)) := (o69 _ (by omega)).trans hR9
      have hR10 : h67 (m + 4) = some (cI D 4 (gB σ 10)) := (o69 _ (by omega)).trans hR10
      have hR11 : h67 (m + 5) = some (cI D 4 (gB σ 11)) := (o69 _ (by omega)).trans hR11
      have hR12 : h67 (m + 6) = some (cI D 4 (upd (upd (upd (upd (gB σ 12) (0) (gB σ 32 (0))) (1) (gB σ 32 (1))) (2) (gB σ 32 (2))) (3) (gB σ 32 (3)))) := (o69 _ (by omega)).trans hR12
      have hR14 : h67 (m + 7) = some (cI D 12 (upd (upd (upd (upd (upd (gB σ 14) (0) (gB σ 33 (0))) (1) (gB σ 33 (1))) (2) (gB σ 33 (2))) (3) (gB σ 33 (3))) (4) (gB σ 33 (4)))) := (o69 _ (by omega)).trans hR14
      have hR17 : h67 (m + 9) = some (cB D 16 (gB σ 17)) := (o69 _ (by omega)).trans hR17
      have hR21 : h67 (m + 10) = some (cI D 5 (f21)) := (o69 _ (by omega)).trans hR21
      have hR22 : h67 (m + 11) = some (cI D 5 (f22)) := (o69 _ (by omega)).trans hR22
      have hR31 : h67 (m + 12) = some (cI D 5 (gB σ 31)) := (o69 _ (by omega)).trans hR31
      have hR32 : h67 (m + 13) = some (cI D 4 (gB σ 32)) := (o69 _ (by omega)).trans hR32
      have hR33 : h67 (m + 14) = some (cI D 12 (gB σ 33)) := (o69 _ (by omega)).trans hR33
      have hR34 : h67 (m + 15) = some (cI D 12 (gB σ 34)) := (o69 _ (by omega)).trans hR34
      have hO : ∀ q, (q < m ∨ m + 16 ≤ q) → h67 q = h q := fun q hq => (o69 q (by omega)).trans (hO q hq)
      refine g_iinc C (v := 5) 0 ([(1, .int (5)), (0, .ref (m))]) dX12_restore_135 rfl (by decide) (by decide) rfl rfl ?_
      refine g_goto C dX12_restore_138 (tgt := 105) (by decide) ?_
      refine g_iload_n C 0 dX12_restore_105 rfl rfl rfl ?_
      refine g_bipush C (v := 12) dX12_restore_106 (by decide) rfl ?_
      refine g_icmp_ge C dX12_restore_108 (tgt := 141) (by decide) (pc' := 111) rfl (fun c108 => absurd c108 (by decide)) (fun _ => ?_)
      refine g_aload_n C 1 dX12_restore_111 rfl rfl rfl ?_
      refine gf_12_28 C (hMo) (v := .ref (m + 7)) rfl dX12_restore_112 rfl ?_
      refine g_iload_n C 0 dX12_restore_115 rfl rfl rfl ?_
      refine g_aload_n C 1 dX12_restore_116 rfl rfl rfl ?_
      refine gf_12_50 C (hMo) (v := .ref (m + 14)) rfl dX12_restore_117 rfl ?_
      refine g_iload_n C 0 dX12_restore_120 rfl rfl rfl ?_
      refine g_iald' C (hR33) (j := 5) rfl (by omega) (by decide) dX12_restore_121 rfl ?_
      refine g_iast' C (hR14) (j := 5) rfl (by omega) (by decide) dX12_restore_122 (pc' := 123) rfl (fun h70 e71 o72 => ?_)
      have hR14 : h70 (m + 7) = some (cI D 12 (upd (upd (upd (upd (upd (upd (gB σ 14) (0) (gB σ 33 (0))) (1) (gB σ 33 (1))) (2) (gB σ 33 (2))) (3) (gB σ 33 (3))) (4) (gB σ 33 (4))) (5) (gB σ 33 (5)))) := e71
      have hMo : h70 (m) = some (.inr (12, [.int (nI (gN σ 0)), .int (nI (gN σ 1)), .ref (m + 1), .int (nI (gN σ 3)), .int (nI (gN σ 4)), .int (gI σ 27), .int (nI (gN σ 28)), .ref (m + 2), .int (nI (gN σ 29)), .ref (m + 3), .ref (m + 4), .ref (m + 5), .ref (m + 6), .int (nI (gN σ 30)), .ref (m + 7), .ref (m + 8), .int (nI (gN σ 16)), .ref (m + 9), .long (s18), .int (s19), .int (s20), .ref (m + 10), .ref (m + 11), .int (s23), .int (s24), .int (nI (gN σ 25)), .int (nI (gN σ 26)), .int (gI σ 27), .int (nI (gN σ 28)), .int (nI (gN σ 29)), .int (nI (gN σ 30)), .ref (m + 12), .ref (m + 13), .ref (m + 14), .ref (m + 15), .long (s35)])) := (o72 _ (by omega)).trans hMo
      have hR2 : h70 (m + 1) = some (cI D 9 (tnS σ)) := (o72 _ (by omega)).trans hR2
      have hR7 : h70 (m + 2) = some (cI D 5 (upd (upd (upd (upd (upd (gB σ 7) (0) (gB σ 31 (0))) (1) (gB σ 31 (1))) (2) (gB σ 31 (2))) (3) (gB σ 31 (3))) (4) (gB σ 31 (4)))) := (o72 _ (by omega)).trans hR7
      have hR9 : h70 (m + 3) = some (cI D 4 (kdS σ)) := (o72 _ (by omega)).trans hR9
      have hR10 : h70 (m + 4) = some (cI D 4 (gB σ 10)) := (o72 _ (by omega)).trans hR10
      have hR11 : h70 (m + 5) = some (cI D 4 (gB σ 11)) := (o72 _ (by omega)).trans hR11
      have hR12 : h70 (m + 6) = some (cI D 4 (upd (upd (upd (upd (gB σ 12) (0) (gB σ 32 (0))) (1) (gB σ 32 (1))) (2) (gB σ 32 (2))) (3) (gB σ 32 (3)))) := (o72 _ (by omega)).trans hR12
      have hR15 : h70 (m + 8) = some (cI D 12 (upd (upd (upd (upd (upd (gB σ 15) (0) (gB σ 34 (0))) (1) (gB σ 34 (1))) (2) (gB σ 34 (2))) (3) (gB σ 34 (3))) (4) (gB σ 34 (4)))) := (o72 _ (by omega)).trans hR15
      have hR17 : h70 (m + 9) = some (cB D 16 (gB σ 17)) := (o72 _ (by omega)).trans hR17
      have hR21 : h70 (m + 10) = some (cI D 5 (f21)) := (o72 _ (by omega)).trans hR21
      have hR22 : h70 (m + 11) = some (cI D 5 (f22)) := (o72 _ (by omega)).trans hR22
      have hR31 : h70 (m + 12) = some (cI D 5 (gB σ 31)) := (o72 _ (by omega)).trans hR31
      have hR32 : h70 (m + 13) = some (cI D 4 (gB σ 32)) := (o72 _ (by omega)).trans hR32
      have hR33 : h70 (m + 14) = some (cI D 12 (gB σ 33)) := (o72 _ (by omega)).trans hR33
      have hR34 : h70 (m + 15) = some (cI D 12 (gB σ 34)) := (o72 _ (by omega)).trans hR34
      have hO : ∀ q, (q < m ∨ m + 16 ≤ q) → h70 q = h q := fun q hq => (o72 q (by omega)).trans (hO q hq)
      refine g_aload_n C 1 dX12_restore_123 rfl rfl rfl ?_
      refine gf_12_31 C (hMo) (v := .ref (m + 8)) rfl dX12_restore_124 rfl ?_
      refine g_iload_n C 0 dX12_restore_127 rfl rfl rfl ?_
      refine g_aload_n C 1 dX12_restore_128 rfl rfl rfl ?_
      refine gf_12_53 C (hMo) (v := .ref (m + 15)) rfl dX12_restore_129 rfl ?_
      refine g_iload_n C 0 dX12_restore_132 rfl rfl rfl ?_
      refine g_iald' C (hR34) (j := 5) rfl (by omega) (by decide) dX12_restore_133 rfl ?_
      refine g_iast' C (hR15) (j := 5) rfl (by omega) (by decide) dX12_restore_134 (pc' := 135) rfl (fun h73 e74 o75 => ?_)
      have hR15 : h73 (m + 8) = some (cI D 12 (upd (upd (upd (upd (upd (upd (gB σ 15) (0) (gB σ 34 (0))) (1) (gB σ 34 (1))) (2) (gB σ 34 (2))) (3) (gB σ 34 (3))) (4) (gB σ 34 (4))) (5) (gB σ 34 (5)))) := e74
      have hMo : h73 (m) = some (.inr (12, [.int (nI (gN σ 0)), .int (nI (gN σ 1)), .ref (m + 1), .int (nI (gN σ 3)), .int (nI (gN σ 4)), .int (gI σ 27), .int (nI (gN σ 28)), .ref (m + 2), .int (nI (gN σ 29)), .ref (m + 3), .ref (m + 4), .ref (m + 5), .ref (m + 6), .int (nI (gN σ 30)), .ref (m + 7), .ref (m + 8), .int (nI (gN σ 16)), .ref (m + 9), .long (s18), .int (s19), .int (s20), .ref (m + 10), .ref (m + 11), .int (s23), .int (s24), .int (nI (gN σ 25)), .int (nI (gN σ 26)), .int (gI σ 27), .int (nI (gN σ 28)), .int (nI (gN σ 29)), .int (nI (gN σ 30)), .ref (m + 12), .ref (m + 13), .ref (m + 14), .ref (m + 15), .long (s35)])) := (o75 _ (by omega)).trans hMo
      have hR2 : h73 (m + 1) = some (cI D 9 (tnS σ)) := (o75 _ (by omega)).trans hR2
      have hR7 : h73 (m + 2) = some (cI D 5 (upd (upd (upd (upd (upd (gB σ 7) (0) (gB σ 31 (0))) (1) (gB σ 31 (1))) (2) (gB σ 31 (2))) (3) (gB σ 31 (3))) (4) (gB σ 31 (4)))) := (o75 _ (by omega)).trans hR7
      have hR9 : h73 (m + 3) = some (cI D 4 (kdS σ)) := (o75 _ (by omega)).trans hR9
      have hR10 : h73 (m + 4) = some (cI D 4 (gB σ 10)) := (o75 _ (by omega)).trans hR10
      have hR11 : h73 (m + 5) = some (cI D 4 (gB σ 11)) := (o75 _ (by omega)).trans hR11
      have hR12 : h73 (m + 6) = some (cI D 4 (upd (upd (upd (upd (gB σ 12) (0) (gB σ 32 (0))) (1) (gB σ 32 (1))) (2) (gB σ 32 (2))) (3) (gB σ 32 (3)))) := (o75 _ (by omega)).trans hR12
      have hR14 : h73 (m + 7) = some (cI D 12 (upd (upd (upd (upd (upd (upd (gB σ 14) (0) (gB σ 33 (0))) (1) (gB σ 33 (1))) (2) (gB σ 33 (2))) (3) (gB σ 33 (3))) (4) (gB σ 33 (4))) (5) (gB σ 33 (5)))) := (o75 _ (by omega)).trans hR14
      have hR17 : h73 (m + 9) = some (cB D 16 (gB σ 17)) := (o75 _ (by omega)).trans hR17
      have hR21 : h73 (m + 10) = some (cI D 5 (f21)) := (o75 _ (by omega)).trans hR21
      have hR22 : h73 (m + 11) = some (cI D 5 (f22)) := (o75 _ (by omega)).trans hR22
      have hR31 : h73 (m + 12) = some (cI D 5 (gB σ 31)) := (o75 _ (by omega)).trans hR31
      have hR32 : h73 (m + 13) = some (cI D 4 (gB σ 32)) := (o75 _ (by omega)).trans hR32
      have hR33 : h73 (m + 14) = some (cI D 12 (gB σ 33)) := (o75 _ (by omega)).trans hR33
      have hR34 : h73 (m + 15) = some (cI D 12 (gB σ 34)) := (o75 _ (by omega)).trans hR34
      have hO : ∀ q, (q < m ∨ m + 16 ≤ q) → h73 q = h q := fun q hq => (o75 q (by omega)).trans (hO q hq)
      refine g_iinc C (v := 6) 0 ([(1, .int (6)), (0, .ref (m))]) dX12_restore_135 rfl (by decide) (by decide) rfl rfl ?_
      refine g_goto C dX12_restore_138 (tgt := 105) (by decide) ?_
      refine g_iload_n C 0 dX12_restore_105 rfl rfl rfl ?_
      refine g_bipush C (v := 12) dX12_restore_106 (by decide) rfl ?_
      refine g_icmp_ge C dX12_restore_108 (tgt := 141) (by decide) (pc' := 111) rfl (fun c108 => absurd c108 (by decide)) (fun _ => ?_)
      refine g_aload_n C 1 dX12_restore_111 rfl rfl rfl ?_
      refine gf_12_28 C (hMo) (v := .ref (m + 7)) rfl dX12_restore_112 rfl ?_
      refine g_iload_n C 0 dX12_restore_115 rfl rfl rfl ?_
      refine g_aload_n C 1 dX12_restore_116 rfl rfl rfl ?_
      refine gf_12_50 C (hMo) (v := .ref (m + 14)) rfl dX12_restore_117 rfl ?_
      refine g_iload_n C 0 dX12_restore_120 rfl rfl rfl ?_
      refine g_iald' C (hR33) (j := 6) rfl (by omega) (by decide) dX12_restore_121 rfl ?_
      refine g_iast' C (hR14) (j := 6) rfl (by omega) (by decide) dX12_restore_122 (pc' := 123) rfl (fun h76 e77 o78 => ?_)
      have hR14 : h76 (m + 7) = some (cI D 12 (upd (upd (upd (upd (upd (upd (upd (gB σ 14) (0) (gB σ 33 (0))) (1) (gB σ 33 (1))) (2) (gB σ 33 (2))) (3) (gB σ 33 (3))) (4) (gB σ 33 (4))) (5) (gB σ 33 (5))) (6) (gB σ 33 (6)))) := e77
      have hMo : h76 (m) = some (.inr (12, [.int (nI (gN σ 0)), .int (nI (gN σ 1)), .ref (m + 1), .int (nI (gN σ 3)), .int (nI (gN σ 4)), .int (gI σ 27), .int (nI (gN σ 28)), .ref (m + 2), .int (nI (gN σ 29)), .ref (m + 3), .ref (m + 4), .ref (m + 5), .ref (m + 6), .int (nI (gN σ 30)), .ref (m + 7), .ref (m + 8), .int (nI (gN σ 16)), .ref (m + 9), .long (s18), .int (s19), .int (s20), .ref (m + 10), .ref (m + 11), .int (s23), .int (s24), .int (nI (gN σ 25)), .int (nI (gN σ 26)), .int (gI σ 27), .int (nI (gN σ 28)), .int (nI (gN σ 29)), .int (nI (gN σ 30)), .ref (m + 12), .ref (m + 13), .ref (m + 14), .ref (m + 15), .long (s35)])) := (o78 _ (by omega)).trans hMo
      have hR2 : h76 (m + 1) = some (cI D 9 (tnS σ)) := (o78 _ (by omega)).trans hR2
      have hR7 : h76 (m + 2) = some (cI D 5 (upd (upd (upd (upd (upd (gB σ 7) (0) (gB σ 31 (0))) (1) (gB σ 31 (1))) (2) (gB σ 31 (2))) (3) (gB σ 31 (3))) (4) (gB σ 31 (4)))) := (o78 _ (by omega)).trans hR7
      have hR9 : h76 (m + 3) = some (cI D 4 (kdS σ)) := (o78 _ (by omega)).trans hR9
      have hR10 : h76 (m + 4) = some (cI D 4 (gB σ 10)) := (o78 _ (by omega)).trans hR10
      have hR11 : h76 (m + 5) = some (cI D 4 (gB σ 11)) := (o78 _ (by omega)).trans hR11
      have hR12 : h76 (m + 6) = some (cI D 4 (upd (upd (upd (upd (gB σ 12) (0) (gB σ 32 (0))) (1) (gB σ 32 (1))) (2) (gB σ 32 (2))) (3) (gB σ 32 (3)))) := (o78 _ (by omega)).trans hR12
      have hR15 : h76 (m + 8) = some (cI D 12 (upd (upd (upd (upd (upd (upd (gB σ 15) (0) (gB σ 34 (0))) (1) (gB σ 34 (1))) (2) (gB σ 34 (2))) (3) (gB σ 34 (3))) (4) (gB σ 34 (4))) (5) (gB σ 34 (5)))) := (o78 _ (by omega)).trans hR15
      have hR17 : h76 (m + 9) = some (cB D 16 (gB σ 17)) := (o78 _ (by omega)).trans hR17
      have hR21 : h76 (m + 10) = some (cI D 5 (f21)) := (o78 _ (by omega)).trans hR21
      have hR22 : h76 (m + 11) = some (cI D 5 (f22)) := (o78 _ (by omega)).trans hR22
      have hR31 : h76 (m + 12) = some (cI D 5 (gB σ 31)) := (o78 _ (by omega)).trans hR31
      have hR32 : h76 (m + 13) = some (cI D 4 (gB σ 32)) := (o78 _ (by omega)).trans hR32
      have hR33 : h76 (m + 14) = some (cI D 12 (gB σ 33)) := (o78 _ (by omega)).trans hR33
      have hR34 : h76 (m + 15) = some (cI D 12 (gB σ 34)) := (o78 _ (by omega)).trans hR34
      have hO : ∀ q, (q < m ∨ m + 16 ≤ q) → h76 q = h q := fun q hq => (o78 q (by omega)).trans (hO q hq)
      refine g_aload_n C 1 dX12_restore_123 rfl rfl rfl ?_
      refine gf_12_31 C (hMo) (v := .ref (m + 8)) rfl dX12_restore_124 rfl ?_
      refine g_iload_n C 0 dX12_restore_127 rfl rfl rfl ?_
      refine g_aload_n C 1 dX12_restore_128 rfl rfl rfl ?_
      refine gf_12_53 C (hMo) (v := .ref (m + 15)) rfl dX12_restore_129 rfl ?_
      refine g_iload_n C 0 dX12_restore_132 rfl rfl rfl ?_
      refine g_iald' C (hR34) (j := 6) rfl (by omega) (by decide) dX12_restore_133 rfl ?_
      refine g_iast' C (hR15) (j := 6) rfl (by omega) (by decide) dX12_restore_134 (pc' := 135) rfl (fun h79 e80 o81 => ?_)
      have hR15 : h79 (m + 8) = some (cI D 12 (upd (upd (upd (upd (upd (upd (upd (gB σ 15) (0) (gB σ 34 (0))) (1) (gB σ 34 (1))) (2) (gB σ 34 (2))) (3) (gB σ 34 (3))) (4) (gB σ 34 (4))) (5) (gB σ 34 (5))) (6) (gB σ 34 (6)))) := e80
      have hMo : h79 (m) = some (.inr (12, [.int (nI (gN σ 0)), .int (nI (gN σ 1)), .ref (m + 1), .int (nI (gN σ 3)), .int (nI (gN σ 4)), .int (gI σ 27), .int (nI (gN σ 28)), .ref (m + 2), .int (nI (gN σ 29)), .ref (m + 3), .ref (m + 4), .ref (m + 5), .ref (m + 6), .int (nI (gN σ 30)), .ref (m + 7), .ref (m + 8), .int (nI (gN σ 16)), .ref (m + 9), .long (s18), .int (s19), .int (s20), .ref (m + 10), .ref (m + 11), .int (s23), .int (s24), .int (nI (gN σ 25)), .int (nI (gN σ 26)), .int (gI σ 27), .int (nI (gN σ 28)), .int (nI (gN σ 29)), .int (nI (gN σ 30)), .ref (m + 12), .ref (m + 13), .ref (m + 14), .ref (m + 15), .long (s35)])) := (o81 _ (by omega)).trans hMo
      have hR2 : h79 (m + 1) = some (cI D 9 (tnS σ)) := (o81 _ (by omega)).trans hR2
      have hR7 : h79 (m + 2) = some (cI D 5 (upd (upd (upd (upd (upd (gB σ 7) (0) (gB σ 31 (0))) (1) (gB σ 31 (1))) (2) (gB σ 31 (2))) (3) (gB σ 31 (3))) (4) (gB σ 31 (4)))) := (o81 _ (by omega)).trans hR7
      have hR9 : h79 (m + 3) = some (cI D 4 (kdS σ)) := (o81 _ (by omega)).trans hR9
      have hR10 : h79 (m + 4) = some (cI D 4 (gB σ 10)) := (o81 _ (by omega)).trans hR10
      have hR11 : h79 (m + 5) = some (cI D 4 (gB σ 11)) := (o81 _ (by omega)).trans hR11
      have hR12 : h79 (m + 6) = some (cI D 4 (upd (upd (upd (upd (gB σ 12) (0) (gB σ 32 (0))) (1) (gB σ 32 (1))) (2) (gB σ 32 (2))) (3) (gB σ 32 (3)))) := (o81 _ (by omega)).trans hR12
      have hR14 : h79 (m + 7) = some (cI D 12 (upd (upd (upd (upd (upd (upd (upd (gB σ 14) (0) (gB σ 33 (0))) (1) (gB σ 33 (1))) (2) (gB σ 33 (2))) (3) (gB σ 33 (3))) (4) (gB σ 33 (4))) (5) (gB σ 33 (5))) (6) (gB σ 33 (6)))) := (o81 _ (by omega)).trans hR14
      have hR17 : h79 (m + 9) = some (cB D 16 (gB σ 17)) := (o81 _ (by omega)).trans hR17
      have hR21 : h79 (m + 10) = some (cI D 5 (f21)) := (o81 _ (by omega)).trans hR21
      have hR22 : h79 (m + 11) = some (cI D 5 (f22)) := (o81 _ (by omega)).trans hR22
      have hR31 : h79 (m + 12) = some (cI D 5 (gB σ 31)) := (o81 _ (by omega)).trans hR31
      have hR32 : h79 (m + 13) = some (cI D 4 (gB σ 32)) := (o81 _ (by omega)).trans hR32
      have hR33 : h79 (m + 14) = some (cI D 12 (gB σ 33)) := (o81 _ (by omega)).trans hR33
      have hR34 : h79 (m + 15) = some (cI D 12 (gB σ 34)) := (o81 _ (by omega)).trans hR34
      have hO : ∀ q, (q < m ∨ m + 16 ≤ q) → h79 q = h q := fun q hq => (o81 q (by omega)).trans (hO q hq)
      refine g_iinc C (v := 7) 0 ([(1, .int (7)), (0, .ref (m))]) dX12_restore_135 rfl (by decide) (by decide) rfl rfl ?_
      refine g_goto C dX12_restore_138 (tgt := 105) (by decide) ?_
      refine g_iload_n C 0 dX12_restore_105 rfl rfl rfl ?_
      refine g_bipush C (v := 12) dX12_restore_106 (by decide) rfl ?_
      refine g_icmp_ge C dX12_restore_108 (tgt := 141) (by decide) (pc' := 111) rfl (fun c108 => absurd c108 (by decide)) (fun _ => ?_)
      refine g_aload_n C 1 dX12_restore_111 rfl rfl rfl ?_
      refine gf_12_28 C (hMo) (v := .ref (m + 7)) rfl dX12_restore_112 rfl ?_
      refine g_iload_n C 0 dX12_restore_115 rfl rfl rfl ?_
      refine g_aload_n C 1 dX12_restore_116 rfl rfl rfl ?_
      refine gf_12_50 C (hMo) (v := .ref (m + 14)) rfl dX12_restore_117 rfl ?_
      refine g_iload_n C 0 dX12_restore_120 rfl rfl rfl ?_
      refine g_iald' C (hR33) (j := 7) rfl (by omega) (by decide) dX12_restore_121 rfl ?_
      refine g_iast' C (hR14) (j := 7) rfl (by omega) (by decide) dX12_restore_122 (pc' := 123) rfl (fun h82 e83 o84 => ?_)
      have hR14 : h82 (m + 7) = some (cI D 12 (upd (upd (upd (upd (upd (upd (upd (upd (gB σ 14) (0) (gB σ 33 (0))) (1) (gB σ 33 (1))) (2) (gB σ 33 (2))) (3) (gB σ 33 (3))) (4) (gB σ 33 (4))) (5) (gB σ 33 (5))) (6) (gB σ 33 (6))) (7) (gB σ 33 (7)))) := e83
      have hMo : h82 (m) = some (.inr (12, [.int (nI (gN σ 0)), .int (nI (gN σ 1)), .ref (m + 1), .int (nI (gN σ 3)), .int (nI (gN σ 4)), .int (gI σ 27), .int (nI (gN σ 28)), .ref (m + 2), .int (nI (gN σ 29)), .ref (m + 3), .ref (m + 4), .ref (m + 5), .ref (m + 6), .int (nI (gN σ 30)), .ref (m + 7), .ref (m + 8), .int (nI (gN σ 16)), .ref (m + 9), .long (s18), .int (s19), .int (s20), .ref (m + 10), .ref (m + 11), .int (s23), .int (s24), .int (nI (gN σ 25)), .int (nI (gN σ 26)), .int (gI σ 27), .int (nI (gN σ 28)), .int (nI (gN σ 29)), .int (nI (gN σ 30)), .ref (m + 12), .ref (m + 13), .ref (m + 14), .ref (m + 15), .long (s35)])) := (o84 _ (by omega)).trans hMo
      have hR2 : h82 (m + 1) = some (cI D 9 (tnS σ)) := (o84 _ (by omega)).trans hR2
      have hR7 : h82 (m + 2) = some (cI D 5 (upd (upd (upd (upd (upd (gB σ 7) (0) (gB σ 31 (0))) (1) (gB σ 31 (1))) (2) (gB σ 31 (2))) (3) (gB σ 31 (3))) (4) (gB σ 31 (4)))) := (o84 _ (by omega)).trans hR7
      have hR9 : h82 (m + 3) = some (cI D 4 (kdS σ)) := (o84 _ (by omega)).trans hR9
      have hR10 : h82 (m + 4) = some (cI D 4 (gB σ 10)) := (o84 _ (by omega)).trans hR10
      have hR11 : h82 (m + 5) = some (cI D 4 (gB σ 11)) := (o84 _ (by omega)).trans hR11
      have hR12 : h82 (m + 6) = some (cI D 4 (upd (upd (upd (upd (gB σ 12) (0) (gB σ 32 (0))) (1) (gB σ 32 (1))) (2) (gB σ 32 (2))) (3) (gB σ 32 (3)))) := (o84 _ (by omega)).trans hR12
      have hR15 : h82 (m + 8) = some (cI D 12 (upd (upd (upd (upd (upd (upd (upd (gB σ 15) (0) (gB σ 34 (0))) (1) (gB σ 34 (1))) (2) (gB σ 34 (2))) (3) (gB σ 34 (3))) (4) (gB σ 34 (4))) (5) (gB σ 34 (5))) (6) (gB σ 34 (6)))) := (o84 _ (by omega)).trans hR15
      have hR17 : h82 (m + 9) = some (cB D 16 (gB σ 17)) := (o84 _ (by omega)).trans hR17
      have hR21 : h82 (m + 10) = some (cI D 5 (f21)) := (o84 _ (by omega)).trans hR21
      have hR22 : h82 (m + 11) = some (cI D 5 (f22)) := (o84 _ (by omega)).trans hR22
      have hR31 : h82 (m + 12) = some (cI D 5 (gB σ 31)) := (o84 _ (by omega)).trans hR31
      have hR32 : h82 (m + 13) = some (cI D 4 (gB σ 32)) := (o84 _ (by omega)).trans hR32
      have hR33 : h82 (m + 14) = some (cI D 12 (gB σ 33)) := (o84 _ (by omega)).trans hR33
      have hR34 : h82 (m + 15) = some (cI D 12 (gB σ 34)) := (o84 _ (by omega)).trans hR34
      have hO : ∀ q, (q < m ∨ m + 16 ≤ q) → h82 q = h q := fun q hq => (o84 q (by omega)).trans (hO q hq)
      refine g_aload_n C 1 dX12_restore_123 rfl rfl rfl ?_
      refine gf_12_31 C (hMo) (v := .ref (m + 8)) rfl dX12_restore_124 rfl ?_
      refine g_iload_n C 0 dX12_restore_127 rfl rfl rfl ?_
      refine g_aload_n C 1 dX12_restore_128 rfl rfl rfl ?_
      refine gf_12_53 C (hMo) (v := .ref (m + 15)) rfl dX12_restore_129 rfl ?_
      refine g_iload_n C 0 dX12_restore_132 rfl rfl rfl ?_
      refine g_iald' C (hR34) (j := 7) rfl (by omega) (by decide) dX12_restore_133 rfl ?_
      refine g_iast' C (hR15) (j := 7) rfl (by omega) (by decide) dX12_restore_134 (pc' := 135) rfl (fun h85 e86 o87 => ?_)
      have hR15 : h85 (m + 8) = some (cI D 12 (upd (upd (upd (upd (upd (upd (upd (upd (gB σ 15) (0) (gB σ 34 (0))) (1) (gB σ 34 (1))) (2) (gB σ 34 (2))) (3) (gB σ 34 (3))) (4) (gB σ 34 (4))) (5) (gB σ 34 (5))) (6) (gB σ 34 (6))) (7) (gB σ 34 (7)))) := e86
      have hMo : h85 (m) = some (.inr (12, [.int (nI (gN σ 0)), .int (nI (gN σ 1)), .ref (m + 1), .int (nI (gN σ 3)), .int (nI (gN σ 4)), .int (gI σ 27), .int (nI (gN σ 28)), .ref (m + 2), .int (nI (gN σ 29)), .ref (m + 3), .ref (m + 4), .ref (m + 5), .ref (m + 6), .int (nI (gN σ 30)), .ref (m + 7), .ref (m + 8), .int (nI (gN σ 16)), .ref (m + 9), .long (s18), .int (s19), .int (s20), .ref (m + 10), .ref (m + 11), .int (s23), .int (s24), .int (nI (gN σ 25)), .int (nI (gN σ 26)), .int (gI σ 27), .int (nI (gN σ 28)), .int (nI (gN σ 29)), .int (nI (gN σ 30)), .ref (m + 12), .ref (m + 13), .ref (m + 14), .ref (m + 15), .long (s35)])) := (o87 _ (by omega)).trans hMo
      have hR2 : h85 (m + 1) = some (cI D 9 (tnS σ)) := (o87 _ (by omega)).trans hR2
      have hR7 : h85 (m + 2) = some (cI D 5 (upd (upd (upd (upd (upd (gB σ 7) (0) (gB σ 31 (0))) (1) (gB σ 31 (1))) (2) (gB σ 31 (2))) (3) (gB σ 31 (3))) (4) (gB σ 31 (4)))) := (o87 _ (by omega)).trans hR7
      have hR9 : h85 (m + 3) = some (cI D 4 (kdS σ)) := (o87 _ (by omega)).trans hR9
      have hR10 : h85 (m + 4) = some (cI D 4 (gB σ 10)) := (o87 _ (by omega)).trans hR10
      have hR11 : h85 (m + 5) = some (cI D 4 (gB σ 11)) := (o87 _ (by omega)).trans hR11
      have hR12 : h85 (m + 6) = some (cI D 4 (upd (upd (upd (upd (gB σ 12) (0) (gB σ 32 (0))) (1) (gB σ 32 (1))) (2) (gB σ 32 (2))) (3) (gB σ 32 (3)))) := (o87 _ (by omega)).trans hR12
      have hR14 : h85 (m + 7) = some (cI D 12 (upd (upd (upd (upd (upd (upd (upd (upd (gB σ 14) (0) (gB σ 33 (0))) (1) (gB σ 33 (1))) (2) (gB σ 33 (2))) (3) (gB σ 33 (3))) (4) (gB σ 33 (4))) (5) (gB σ 33 (5))) (6) (gB σ 33 (6))) (7) (gB σ 33 (7)))) := (o87 _ (by omega)).trans hR14
      have hR17 : h85 (m + 9) = some (cB D 16 (gB σ 17)) := (o87 _ (by omega)).trans hR17
      have hR21 : h85 (m + 10) = some (cI D 5 (f21)) := (o87 _ (by omega)).trans hR21
      have hR22 : h85 (m + 11) = some (cI D 5 (f22)) := (o87 _ (by omega)).trans hR22
      have hR31 : h85 (m + 12) = some (cI D 5 (gB σ 31)) := (o87 _ (by omega)).trans hR31
      have hR32 : h85 (m + 13) = some (cI D 4 (gB σ 32)) := (o87 _ (by omega)).trans hR32
      have hR33 : h85 (m + 14) = some (cI D 12 (gB σ 33)) := (o87 _ (by omega)).trans hR33
      have hR34 : h85 (m + 15) = some (cI D 12 (gB σ 34)) := (o87 _ (by omega)).trans hR34
      have hO : ∀ q, (q < m ∨ m + 16 ≤ q) → h85 q = h q := fun q hq => (o87 q (by omega)).trans (hO q hq)
      refine g_iinc C (v := 8) 0 ([(1, .int (8)), (0, .ref (m))]) dX12_restore_135 rfl (by decide) (by decide) rfl rfl ?_
      refine g_goto C dX12_restore_138 (tgt := 105) (by decide) ?_
      refine g_iload_n C 0 dX12_restore_105 rfl rfl rfl ?_
      refine g_bipush C (v := 12) dX12_restore_106 (by decide) rfl ?_
      refine g_icmp_ge C dX12_restore_108 (tgt := 141) (by decide) (pc' := 111) rfl (fun c108 => absurd c108 (by decide)) (fun _ => ?_)
      refine g_aload_n C 1 dX12_restore_111 rfl rfl rfl ?_
      refine gf_12_28 C (hMo) (v := .ref (m + 7)) rfl dX12_restore_112 rfl ?_
      refine g_iload_n C 0 dX12_restore_115 rfl rfl rfl ?_
      refine g_aload_n C 1 dX12_restore_116 rfl rfl rfl ?_
      refine gf_12_50 C (hMo) (v := .ref (m + 14)) rfl dX12_restore_117 rfl ?_
      refine g_iload_n C 0 dX12_restore_120 rfl rfl rfl ?_
      refine g_iald' C (hR33) (j := 8) rfl (by omega) (by decide) dX12_restore_121 rfl ?_
      refine g_iast' C (hR14) (j := 8) rfl (by omega) (by decide) dX12_restore_122 (pc' := 123) rfl (fun h88 e89 o90 => ?_)
      have hR14 : h88 (m + 7) = some (cI D 12 (upd (upd (upd (upd (upd (upd (upd (upd (upd (gB σ 14) (0) (gB σ 33 (0))) (1) (gB σ 33 (1))) (2) (gB σ 33 (2))) (3) (gB σ 33 (3))) (4) (gB σ 33 (4))) (5) (gB σ 33 (5))) (6) (gB σ 33 (6))) (7) (gB σ 33 (7))) (8) (gB σ 33 (8)))) := e89
      have hMo : h88 (m) = some (.inr (12, [.int (nI (gN σ 0)), .int (nI (gN σ 1)), .ref (m + 1), .int (nI (gN σ 3)), .int (nI (gN σ 4)), .int (gI σ 27), .int (nI (gN σ 28)), .ref (m + 2), .int (nI (gN σ 29)), .ref (m + 3), .ref (m + 4), .ref (m + 5), .ref (m + 6), .int (nI (gN σ 30)), .ref (m + 7), .ref (m + 8), .int (nI (gN σ 16)), .ref (m + 9), .long (s18), .int (s19), .int (s20), .ref (m + 10), .ref (m + 11), .int (s23), .int (s24), .int (nI (gN σ 25)), .int (nI (gN σ 26)), .int (gI σ 27), .int (nI (gN σ 28)), .int (nI (gN σ 29)), .int (nI (gN σ 30)), .ref (m + 12), .ref (m + 13), .ref (m + 14), .ref (m + 15), .long (s35)])) := (o90 _ (by omega)).trans hMo
      have hR2 : h88 (m + 1) = some (cI D 9 (tnS σ)) := (o90 _ (by omega)).trans hR2
      have hR7 : h88 (m + 2) = some (cI D 5 (upd (upd (upd (upd (upd (gB σ 7) (0) (gB σ 31 (0))) (1) (gB σ 31 (1))) (2) (gB σ 31 (2))) (3) (gB σ 31 (3))) (4) (gB σ 31 (4)))) := (o90 _ (by omega)).trans hR7
      have hR9 : h88 (m + 3) = some (cI D 4 (kdS σ)) := (o90 _ (by omega)).trans hR9
      have hR10 : h88 (m + 4) = some (cI D 4 (gB σ 10)) := (o90 _ (by omega)).trans hR10
      have hR11 : h88 (m + 5) = some (cI D 4 (gB σ 11)) := (o90 _ (by omega)).trans hR11
      have hR12 : h88 (m + 6) = some (cI D 4 (upd (upd (upd (upd (gB σ 12) (0) (gB σ 32 (0))) (1) (gB σ 32 (1))) (2) (gB σ 32 (2))) (3) (gB σ 32 (3)))) := (o90 _ (by omega)).trans hR12
      have hR15 : h88 (m + 8) = some (cI D 12 (upd (upd (upd (upd (upd (upd (upd (upd (gB σ 15) (0) (gB σ 34 (0))) (1) (gB σ 34 (1))) (2) (gB σ 34 (2))) (3) (gB σ 34 (3))) (4) (gB σ 34 (4))) (5) (gB σ 34 (5))) (6) (gB σ 34 (6))) (7) (gB σ 34 (7)))) := (o90 _ (by omega)).trans hR15
      have hR17 : h88 (m + 9) = some (cB D 16 (gB σ 17)) := (o90 _ (by omega)).trans hR17
      have hR21 : h88 (m + 10) = some (cI D 5 (f21)) := (o90 _ (by omega)).trans hR21
      have hR22 : h88 (m + 11) = some (cI D 5 (f22)) := (o90 _ (by omega)).trans hR22
      have hR31 : h88 (m + 12) = some (cI D 5 (gB σ 31)) := (o90 _ (by omega)).trans hR31
      have hR32 : h88 (m + 13) = some (cI D 4 (gB σ 32)) := (o90 _ (by omega)).trans hR32
      have hR33 : h88 (m + 14) = some (cI D 12 (gB σ 33)) := (o90 _ (by omega)).trans hR33
      have hR34 : h88 (m + 15) = some (cI D 12 (gB σ 34)) := (o90 _ (by omega)).trans hR34
      have hO : ∀ q, (q < m ∨ m + 16 ≤ q) → h88 q = h q := fun q hq => (o90 q (by omega)).trans (hO q hq)
      refine g_aload_n C 1 dX12_restore_123 rfl rfl rfl ?_
      refine gf_12_31 C (hMo) (v := .ref (m + 8)) rfl dX12_restore_124 rfl ?_
      refine g_iload_n C 0 dX12_restore_127 rfl rfl rfl ?_
      refine g_aload_n C 1 dX12_restore_128 rfl rfl rfl ?_
      refine gf_12_53 C (hMo) (v := .ref (m + 15)) rfl dX12_restore_129 rfl ?_
      refine g_iload_n C 0 dX12_restore_132 rfl rfl rfl ?_
      refine g_iald' C (hR34) (j := 8) rfl (by omega) (by decide) dX12_restore_133 rfl ?_
      refine g_iast' C (hR15) (j := 8) rfl (by omega) (by decide) dX12_restore_134 (pc' := 135) rfl (fun h91 e92 o93 => ?_)
      have hR15 : h91 (m + 8) = some (cI D 12 (upd (upd (upd (upd (upd (upd (upd (upd (upd (gB σ 15) (0) (gB σ 34 (0))) (1) (gB σ 34 (1))) (2) (gB σ 34 (2))) (3) (gB σ 34 (3))) (4) (gB σ 34 (4))) (5) (gB σ 34 (5))) (6) (gB σ 34 (6))) (7) (gB σ 34 (7))) (8) (gB σ 34 (8)))) := e92
      have hMo : h91 (m) = some (.inr (12, [.int (nI (gN σ 0)), .int (nI (gN σ 1)), .ref (m + 1), .int (nI (gN σ 3)), .int (nI (gN σ 4)), .int (gI σ 27), .int (nI (gN σ 28)), .ref (m + 2), .int (nI (gN σ 29)), .ref (m + 3), .ref (m + 4), .ref (m + 5), .ref (m + 6), .int (nI (gN σ 30)), .ref (m + 7), .ref (m + 8), .int (nI (gN σ 16)), .ref (m + 9), .long (s18), .int (s19), .int (s20), .ref (m + 10), .ref (m + 11), .int (s23), .int (s24), .int (nI (gN σ 25)), .int (nI (gN σ 26)), .int (gI σ 27), .int (nI (gN σ 28)), .int (nI (gN σ 29)), .int (nI (gN σ 30)), .ref (m + 12), .ref (m + 13), .ref (m + 14), .ref (m + 15), .long (s35)])) := (o93 _ (by omega)).trans hMo
      have hR2 : h91 (m + 1) = some (cI D 9 (tnS σ)) := (o93 _ (by omega)).trans hR2
      have hR7 : h91 (m + 2) = some (cI D 5 (upd (upd (upd (upd (upd (gB σ 7) (0) (gB σ 31 (0))) (1) (gB σ 31 (1))) (2) (gB σ 31 (2))) (3) (gB σ 31 (3))) (4) (gB σ 31 (4)))) := (o93 _ (by omega)).trans hR7
      have hR9 : h91 (m + 3) = some (cI D 4 (kdS σ)) := (o93 _ (by omega)).trans hR9
      have hR10 : h91 (m + 4) = some (cI D 4 (gB σ 10)) := (o93 _ (by omega)).trans hR10
      have hR11 : h91 (m + 5) = some (cI D 4 (gB σ 11)) := (o93 _ (by omega)).trans hR11
      have hR12 : h91 (m + 6) = some (cI D 4 (upd (upd (upd (upd (gB σ 12) (0) (gB σ 32 (0))) (1) (gB σ 32 (1))) (2) (gB σ 32 (2))) (3) (gB σ 32 (3)))) := (o93 _ (by omega)).trans hR12
      have hR14 : h91 (m + 7) = some (cI D 12 (upd (upd (upd (upd (upd (upd (upd (upd (upd (gB σ 14) (0) (gB σ 33 (0))) (1) (gB σ 33 (1))) (2) (gB σ 33 (2))) (3) (gB σ 33 (3))) (4) (gB σ 33 (4))) (5) (gB σ 33 (5))) (6) (gB σ 33 (6))) (7) (gB σ 33 (7))) (8) (gB σ 33 (8)))) := (o93 _ (by omega)).trans hR14
      have hR17 : h91 (m + 9) = some (cB D 16 (gB σ 17)) := (o93 _ (by omega)).trans hR17
      have hR21 : h91 (m + 10) = some (cI D 5 (f21)) := (o93 _ (by omega)).trans hR21
      have hR22 : h91 (m + 11) = some (cI D 5 (f22)) := (o93 _ (by omega)).trans hR22
      have hR31 : h91 (m + 12) = some (cI D 5 (gB σ 31)) := (o93 _ (by omega)).trans hR31
      have hR32 : h91 (m + 13) = some (cI D 4 (gB σ 32)) := (o93 _ (by omega)).trans hR32
      have hR33 : h91 (m + 14) = some (cI D 12 (gB σ 33)) := (o93 _ (by omega)).trans hR33
      have hR34 : h91 (m + 15) = some (cI D 12 (gB σ 34)) := (o93 _ (by omega)).trans hR34
      have hO : ∀ q, (q < m ∨ m + 16 ≤ q) → h91 q = h q := fun q hq => (o93 q (by omega)).trans (hO q hq)
      refine g_iinc C (v := 9) 0 ([(1, .int (9)), (0, .ref (m))]) dX12_restore_135 rfl (by decide) (by decide) rfl rfl ?_
      refine g_goto C dX12_restore_138 (tgt := 105) (by decide) ?_
      refine g_iload_n C 0 dX12_restore_105 rfl rfl rfl ?_
      refine g_bipush C (v := 12) dX12_restore_106 (by decide) rfl ?_
      refine g_icmp_ge C dX12_restore_108 (tgt := 141) (by decide) (pc' := 111) rfl (fun c108 => absurd c108 (by decide)) (fun _ => ?_)
      refine g_aload_n C 1 dX12_restore_111 rfl rfl rfl ?_
      refine gf_12_28 C (hMo) (v := .ref (m + 7)) rfl dX12_restore_112 rfl ?_
      refine g_iload_n C 0 dX12_restore_115 rfl rfl rfl ?_
      refine g_aload_n C 1 dX12_restore_116 rfl rfl rfl ?_
      refine gf_12_50 C (hMo) (v := .ref (m + 14)) rfl dX12_restore_117 rfl ?_
      refine g_iload_n C 0 dX12_restore_120 rfl rfl rfl ?_
      refine g_iald' C (hR33) (j := 9) rfl (by omega) (by decide) dX12_restore_121 rfl ?_
      refine g_iast' C (hR14) (j := 9) rfl (by omega) (by decide) dX12_restore_122 (pc' := 123) rfl (fun h94 e95 o96 => ?_)
      have hR14 : h94 (m + 7) = some (cI D 12 (upd (upd (upd (upd (upd (upd (upd (upd (upd (upd (gB σ 14) (0) (gB σ 33 (0))) (1) (gB σ 33 (1))) (2) (gB σ 33 (2))) (3) (gB σ 33 (3))) (4) (gB σ 33 (4))) (5) (gB σ 33 (5))) (6) (gB σ 33 (6))) (7) (gB σ 33 (7))) (8) (gB σ 33 (8))) (9) (gB σ 33 (9)))) := e95
      have hMo : h94 (m) = some (.inr (12, [.int (nI (gN σ 0)), .int (nI (gN σ 1)), .ref (m + 1), .int (nI (gN σ 3)), .int (nI (gN σ 4)), .int (gI σ 27), .int (nI (gN σ 28)), .ref (m + 2), .int (nI (gN σ 29)), .ref (m + 3), .ref (m + 4), .ref (m + 5), .ref (m + 6), .int (nI (gN σ 30)), .ref (m + 7), .ref (m + 8), .int (nI (gN σ 16)), .ref (m + 9), .long (s18), .int (s19), .int (s20), .ref (m + 10), .ref (m + 11), .int (s23), .int (s24), .int (nI (gN σ 25)), .int (nI (gN σ 26)), .int (gI σ 27), .int (nI (gN σ 28)), .int (nI (gN σ 29)), .int (nI (gN σ 30)), .ref (m + 12), .ref (m + 13), .ref (m + 14), .ref (m + 15), .long (s35)])) := (o96 _ (by omega)).trans hMo
      have hR2 : h94 (m + 1) = some (cI D 9 (tnS σ)) := (o96 _ (by omega)).trans hR2
      have hR7 : h94 (m + 2) = some (cI D 5 (upd (upd (upd (upd (upd (gB σ 7) (0) (gB σ 31 (0))) (1) (gB σ 31 (1))) (2) (gB σ 31 (2))) (3) (gB σ 31 (3))) (4) (gB σ 31 (4)))) := (o96 _ (by omega)).trans hR7
      have hR9 : h94 (m + 3) = some (cI D 4 (kdS σ)) := (o96 _ (by omega)).trans hR9
      have hR10 : h94 (m + 4) = some (cI D 4 (gB σ 10)) := (o96 _ (by omega)).trans hR10
      have hR11 : h94 (m + 5) = some (cI D 4 (gB σ 11)) := (o96 _ (by omega)).trans hR11
      have hR12 : h94 (m + 6) = some (cI D 4 (upd (upd (upd (upd (gB σ 12) (0) (gB σ 32 (0))) (1) (gB σ 32 (1))) (2) (gB σ 32 (2))) (3) (gB σ 32 (3)))) := (o96 _ (by omega)).trans hR12
      have hR15 : h94 (m + 8) = some (cI D 12 (upd (upd (upd (upd (upd (upd (upd (upd (upd (gB σ 15) (0) (gB σ 34 (0))) (1) (gB σ 34 (1))) (2) (gB σ 34 (2))) (3) (gB σ 34 (3))) (4) (gB σ 34 (4))) (5) (gB σ 34 (5))) (6) (gB σ 34 (6))) (7) (gB σ 34 (7))) (8) (gB σ 34 (8)))) := (o96 _ (by omega)).trans hR15
      have hR17 : h94 (m + 9) = some (cB D 16 (gB σ 17)) := (o96 _ (by omega)).trans hR17
      have hR21 : h94 (m + 10) = some (cI D 5 (f21)) := (o96 _ (by omega)).trans hR21
      have hR22 : h94 (m + 11) = some (cI D 5 (f22)) := (o96 _ (by omega)).trans hR22
      have hR31 : h94 (m + 12) = some (cI D 5 (gB σ 31)) := (o96 _ (by omega)).trans hR31
      have hR32 : h94 (m + 13) = some (cI D 4 (gB σ 32)) := (o96 _ (by omega)).trans hR32
      have hR33 : h94 (m + 14) = some (cI D 12 (gB σ 33)) := (o96 _ (by omega)).trans hR33
      have hR34 : h94 (m + 15) = some (cI D 12 (gB σ 34)) := (o96 _ (by omega)).trans hR34
      have hO : ∀ q, (q < m ∨ m + 16 ≤ q) → h94 q = h q := fun q hq => (o96 q (by omega)).trans (hO q hq)
      refine g_aload_n C 1 dX12_restore_123 rfl rfl rfl ?_
      refine gf_12_31 C (hMo) (v := .ref (m + 8)) rfl dX12_restore_124 rfl ?_
      refine g_iload_n C 0 dX12_restore_127 rfl rfl rfl ?_
      refine g_aload_n C 1 dX12_restore_128 rfl rfl rfl ?_
      refine gf_12_53 C (hMo) (v := .ref (m + 15)) rfl dX12_restore_129 rfl ?_
      refine g_iload_n C 0 dX12_restore_132 rfl rfl rfl ?_
      refine g_iald' C (hR34) (j := 9) rfl (by omega) (by decide) dX12_restore_133 rfl ?_
      refine g_iast' C (hR15) (j := 9) rfl (by omega) (by decide) dX12_restore_134 (pc' := 135) rfl (fun h97 e98 o99 => ?_)
      have hR15 : h97 (m + 8) = some (cI D 12 (upd (upd (upd (upd (upd (upd (upd (upd (upd (upd (gB σ 15) (0) (gB σ 34 (0))) (1) (gB σ 34 (1))) (2) (gB σ 34 (2))) (3) (gB σ 34 (3))) (4) (gB σ 34 (4))) (5) (gB σ 34 (5))) (6) (gB σ 34 (6))) (7) (gB σ 34 (7))) (8) (gB σ 34 (8))) (9) (gB σ 34 (9)))) := e98
      have hMo : h97 (m) = some (.inr (12, [.int (nI (gN σ 0)), .int (nI (gN σ 1)), .ref (m + 1), .int (nI (gN σ 3)), .int (nI (gN σ 4)), .int (gI σ 27), .int (nI (gN σ 28)), .ref (m + 2), .int (nI (gN σ 29)), .ref (m + 3), .ref (m + 4), .ref (m + 5), .ref (m + 6), .int (nI (gN σ 30)), .ref (m + 7), .ref (m + 8), .int (nI (gN σ 16)), .ref (m + 9), .long (s18), .int (s19), .int (s20), .ref (m + 10), .ref (m + 11), .int (s23), .int (s24), .int (nI (gN σ 25)), .int (nI (gN σ 26)), .int (gI σ 27), .int (nI (gN σ 28)), .int (nI (gN σ 29)), .int (nI (gN σ 30)), .ref (m + 12), .ref (m + 13), .ref (m + 14), .ref (m + 15), .long (s35)])) := (o99 _ (by omega)).trans hMo
      have hR2 : h97 (m + 1) = some (cI D 9 (tnS σ)) := (o99 _ (by omega)).trans hR2
      have hR7 : h97 (m + 2) = some (cI D 5 (upd (upd (upd (upd (upd (gB σ 7) (0) (gB σ 31 (0))) (1) (gB σ 31 (1))) (2) (gB σ 31 (2))) (3) (gB σ 31 (3))) (4) (gB σ 31 (4)))) := (o99 _ (by omega)).trans hR7
      have hR9 : h97 (m + 3) = some (cI D 4 (kdS σ)) := (o99 _ (by omega)).trans hR9
      have hR10 : h97 (m + 4) = some (cI D 4 (gB σ 10)) := (o99 _ (by omega)).trans hR10
      have hR11 : h97 (m + 5) = some (cI D 4 (gB σ 11)) := (o99 _ (by omega)).trans hR11
      have hR12 : h97 (m + 6) = some (cI D 4 (upd (upd (upd (upd (gB σ 12) (0) (gB σ 32 (0))) (1) (gB σ 32 (1))) (2) (gB σ 32 (2))) (3) (gB σ 32 (3)))) := (o99 _ (by omega)).trans hR12
      have hR14 : h97 (m + 7) = some (cI D 12 (upd (upd (upd (upd (upd (upd (upd (upd (upd (upd (gB σ 14) (0) (gB σ 33 (0))) (1) (gB σ 33 (1))) (2) (gB σ 33 (2))) (3) (gB σ 33 (3))) (4) (gB σ 33 (4))) (5) (gB σ 33 (5))) (6) (gB σ 33 (6))) (7) (gB σ 33 (7))) (8) (gB σ 33 (8))) (9) (gB σ 33 (9)))) := (o99 _ (by omega)).trans hR14
      have hR17 : h97 (m + 9) = some (cB D 16 (gB σ 17)) := (o99 _ (by omega)).trans hR17
      have hR21 : h97 (m + 10) = some (cI D 5 (f21)) := (o99 _ (by omega)).trans hR21
      have hR22 : h97 (m + 11) = some (cI D 5 (f22)) := (o99 _ (by omega)).trans hR22
      have hR31 : h97 (m + 12) = some (cI D 5 (gB σ 31)) := (o99 _ (by omega)).trans hR31
      have hR32 : h97 (m + 13) = some (cI D 4 (gB σ 32)) := (o99 _ (by omega)).trans hR32
      have hR33 : h97 (m + 14) = some (cI D 12 (gB σ 33)) := (o99 _ (by omega)).trans hR33
      have hR34 : h97 (m + 15) = some (cI D 12 (gB σ 34)) := (o99 _ (by omega)).trans hR34
      have hO : ∀ q, (q < m ∨ m + 16 ≤ q) → h97 q = h q := fun q hq => (o99 q (by omega)).trans (hO q hq)
      refine g_iinc C (v := 10) 0 ([(1, .int (10)), (0, .ref (m))]) dX12_restore_135 rfl (by decide) (by decide) rfl rfl ?_
      refine g_goto C dX12_restore_138 (tgt := 105) (by decide) ?_
      refine g_iload_n C 0 dX12_restore_105 rfl rfl rfl ?_
      refine g_bipush C (v := 12) dX12_restore_106 (by decide) rfl ?_
      refine g_icmp_ge C dX12_restore_108 (tgt := 141) (by decide) (pc' := 111) rfl (fun c108 => absurd c108 (by decide)) (fun _ => ?_)
      refine g_aload_n C 1 dX12_restore_111 rfl rfl rfl ?_
      refine gf_12_28 C (hMo) (v := .ref (m + 7)) rfl dX12_restore_112 rfl ?_
      refine g_iload_n C 0 dX12_restore_115 rfl rfl rfl ?_
      refine g_aload_n C 1 dX12_restore_116 rfl rfl rfl ?_
      refine gf_12_50 C (hMo) (v := .ref (m + 14)) rfl dX12_restore_117 rfl ?_
      refine g_iload_n C 0 dX12_restore_120 rfl rfl rfl ?_
      refine g_iald' C (hR33) (j := 10) rfl (by omega) (by decide) dX12_restore_121 rfl ?_
      refine g_iast' C (hR14) (j := 10) rfl (by omega) (by decide) dX12_restore_122 (pc' := 123) rfl (fun h100 e101 o102 => ?_)
      have hR14 : h100 (m + 7) = some (cI D 12 (upd (upd (upd (upd (upd (upd (upd (upd (upd (upd (upd (gB σ 14) (0) (gB σ 33 (0))) (1) (gB σ 33 (1))) (2) (gB σ 33 (2))) (3) (gB σ 33 (3))) (4) (gB σ 33 (4))) (5) (gB σ 33 (5))) (6) (gB σ 33 (6))) (7) (gB σ 33 (7))) (8) (gB σ 33 (8))) (9) (gB σ 33 (9))) (10) (gB σ 33 (10)))) := e101
      have hMo : h100 (m) = some (.inr (12, [.int (nI (gN σ 0)), .int (nI (gN σ 1)), .ref (m + 1), .int (nI (gN σ 3)), .int (nI (gN σ 4)), .int (gI σ 27), .int (nI (gN σ 28)), .ref (m + 2), .int (nI (gN σ 29)), .ref (m + 3), .ref (m + 4), .ref (m + 5), .ref (m + 6), .int (nI (gN σ 30)), .ref (m + 7), .ref (m + 8), .int (nI (gN σ 16)), .ref (m + 9), .long (s18), .int (s19), .int (s20), .ref (m + 10), .ref (m + 11), .int (s23), .int (s24), .int (nI (gN σ 25)), .int (nI (gN σ 26)), .int (gI σ 27), .int (nI (gN σ 28)), .int (nI (gN σ 29)), .int (nI (gN σ 30)), .ref (m + 12), .ref (m + 13), .ref (m + 14), .ref (m + 15), .long (s35)])) := (o102 _ (by omega)).trans hMo
      have hR2 : h100 (m + 1) = some (cI D 9 (tnS σ)) := (o102 _ (by omega)).trans hR2
      have hR7 : h100 (m + 2) = some (cI D 5 (upd (upd (upd (upd (upd (gB σ 7) (0) (gB σ 31 (0))) (1) (gB σ 31 (1))) (2) (gB σ 31 (2))) (3) (gB σ 31 (3))) (4) (gB σ 31 (4)))) := (o102 _ (by omega)).trans hR7
      have hR9 : h100 (m + 3) = some (cI D 4 (kdS σ)) := (o102 _ (by omega)).trans hR9
      have hR10 : h100 (m + 4) = some (cI D 4 (gB σ 10)) := (o102 _ (by omega)).trans hR10
      have hR11 : h100 (m + 5) = some (cI D 4 (gB σ 11)) := (o102 _ (by omega)).trans hR11
      have hR12 : h100 (m + 6) = some (cI D 4 (upd (upd (upd (upd (gB σ 12) (0) (gB σ 32 (0))) (1) (gB σ 32 (1))) (2) (gB σ 32 (2))) (3) (gB σ 32 (3)))) := (o102 _ (by omega)).trans hR12
      have hR15 : h100 (m + 8) = some (cI D 12 (upd (upd (upd (upd (upd (upd (upd (upd (upd (upd (gB σ 15) (0) (gB σ 34 (0))) (1) (gB σ 34 (1))) (2) (gB σ 34 (2))) (3) (gB σ 34 (3))) (4) (gB σ 34 (4))) (5) (gB σ 34 (5))) (6) (gB σ 34 (6))) (7) (gB σ 34 (7))) (8) (gB σ 34 (8))) (9) (gB σ 34 (9)))) := (o102 _ (by omega)).trans hR15
      have hR17 : h100 (m + 9) = some (cB D 16 (gB σ 17)) := (o102 _ (by omega)).trans hR17
      have hR21 : h100 (m + 10) = some (cI D 5 (f21)) := (o102 _ (by omega)).trans hR21
      have hR22 : h100 (m + 11) = some (cI D 5 (f22)) := (o102 _ (by omega)).trans hR22
      have hR31 : h100 (m + 12) = some (cI D 5 (gB σ 31)) := (o102 _ (by omega)).trans hR31
      have hR32 : h100 (m + 13) = some (cI D 4 (gB σ 32)) := (o102 _ (by omega)).trans hR32
      have hR33 : h100 (m + 14) = some (cI D 12 (gB σ 33)) := (o102 _ (by omega)).trans hR33
      have hR34 : h100 (m + 15) = some (cI D 12 (gB σ 34)) := (o102 _ (by omega)).trans hR34
      have hO : ∀ q, (q < m ∨ m + 16 ≤ q) → h100 q = h q := fun q hq => (o102 q (by omega)).trans (hO q hq)
      refine g_aload_n C 1 dX12_restore_123 rfl rfl rfl ?_
      refine gf_12_31 C (hMo) (v := .ref (m + 8)) rfl dX12_restore_124 rfl ?_
      refine g_iload_n C 0 dX12_restore_127 rfl rfl rfl ?_
      refine g_aload_n C 1 dX12_restore_128 rfl rfl rfl ?_
      refine gf_12_53 C (hMo) (v := .ref (m + 15)) rfl dX12_restore_129 rfl ?_
      refine g_iload_n C 0 dX12_restore_132 rfl rfl rfl ?_
      refine g_iald' C (hR34) (j := 10) rfl (by omega) (by decide) dX12_restore_133 rfl ?_
      refine g_iast' C (hR15) (j := 10) rfl (by omega) (by decide) dX12_restore_134 (pc' := 135) rfl (fun h103 e104 o105 => ?_)
      have hR15 : h103 (m + 8) = some (cI D 12 (upd (upd (upd (upd (upd (upd (upd (upd (upd (upd (upd (gB σ 15) (0) (gB σ 34 (0))) (1) (gB σ 34 (1))) (2) (gB σ 34 (2))) (3) (gB σ 34 (3))) (4) (gB σ 34 (4))) (5) (gB σ 34 (5))) (6) (gB σ 34 (6))) (7) (gB σ 34 (7))) (8) (gB σ 34 (8))) (9) (gB σ 34 (9))) (10) (gB σ 34 (10)))) := e104
      have hMo : h103 (m) = some (.inr (12, [.int (nI (gN σ 0)), .int (nI (gN σ 1)), .ref (m + 1), .int (nI (gN σ 3)), .int (nI (gN σ 4)), .int (gI σ 27), .int (nI (gN σ 28)), .ref (m + 2), .int (nI (gN σ 29)), .ref (m + 3), .ref (m + 4), .ref (m + 5), .ref (m + 6), .int (nI (gN σ 30)), .ref (m + 7), .ref (m + 8), .int (nI (gN σ 16)), .ref (m + 9), .long (s18), .int (s19), .int (s20), .ref (m + 10), .ref (m + 11), .int (s23), .int (s24), .int (nI (gN σ 25)), .int (nI (gN σ 26)), .int (gI σ 27), .int (nI (gN σ 28)), .int (nI (gN σ 29)), .int (nI (gN σ 30)), .ref (m + 12), .ref (m + 13), .ref (m + 14), .ref (m + 15), .long (s35)])) := (o105 _ (by omega)).trans hMo
      have hR2 : h103 (m + 1) = some (cI D 9 (tnS σ)) := (o105 _ (by omega)).trans hR2
      have hR7 : h103 (m + 2) = some (cI D 5 (upd (upd (upd (upd (upd (gB σ 7) (0) (gB σ 31 (0))) (1) (gB σ 31 (1))) (2) (gB σ 31 (2))) (3) (gB σ 31 (3))) (4) (gB σ 31 (4)))) := (o105 _ (by omega)).trans hR7
      have hR9 : h103 (m + 3) = some (cI D 4 (kdS σ)) := (o105 _ (by omega)).trans hR9
      have hR10 : h103 (m + 4) = some (cI D 4 (gB σ 10)) := (o105 _ (by omega)).trans hR10
      have hR11 : h103 (m + 5) = some (cI D 4 (gB σ 11)) := (o105 _ (by omega)).trans hR11
      have hR12 : h103 (m + 6) = some (cI D 4 (upd (upd (upd (upd (gB σ 12) (0) (gB σ 32 (0))) (1) (gB σ 32 (1))) (2) (gB σ 32 (2))) (3) (gB σ 32 (3)))) := (o105 _ (by omega)).trans hR12
      have hR14 : h103 (m + 7) = some (cI D 12 (upd (upd (upd (upd (upd (upd (upd (upd (upd (upd (upd (gB σ 14) (0) (gB σ 33 (0))) (1) (gB σ 33 (1))) (2) (gB σ 33 (2))) (3) (gB σ 33 (3))) (4) (gB σ 33 (4))) (5) (gB σ 33 (5))) (6) (gB σ 33 (6))) (7) (gB σ 33 (7))) (8) (gB σ 33 (8))) (9) (gB σ 33 (9))) (10) (gB σ 33 (10)))) := (o105 _ (by omega)).trans hR14
      have hR17 : h103 (m + 9) = some (cB D 16 (gB σ 17)) := (o105 _ (by omega)).trans hR17
      have hR21 : h103 (m + 10) = some (cI D 5 (f21)) := (o105 _ (by omega)).trans hR21
      have hR22 : h103 (m + 11) = some (cI D 5 (f22)) := (o105 _ (by omega)).trans hR22
      have hR31 : h103 (m + 12) = some (cI D 5 (gB σ 31)) := (o105 _ (by omega)).trans hR31
      have hR32 : h103 (m + 13) = some (cI D 4 (gB σ 32)) := (o105 _ (by omega)).trans hR32
      have hR33 : h103 (m + 14) = some (cI D 12 (gB σ 33)) := (o105 _ (by omega)).trans hR33
      have hR34 : h103 (m + 15) = some (cI D 12 (gB σ 34)) := (o105 _ (by omega)).trans hR34
      have hO : ∀ q, (q < m ∨ m + 16 ≤ q) → h103 q = h q := fun q hq => (o105 q (by omega)).trans (hO q hq)
      refine g_iinc C (v := 11) 0 ([(1, .int (11)), (0, .ref (m))]) dX12_restore_135 rfl (by decide) (by decide) rfl rfl ?_
      refine g_goto C dX12_restore_138 (tgt := 105) (by decide) ?_
      refine g_iload_n C 0 dX12_restore_105 rfl rfl rfl ?_
      refine g_bipush C (v := 12) dX12_restore_106 (by decide) rfl ?_
      refine g_icmp_ge C dX12_restore_108 (tgt := 141) (by decide) (pc' := 111) rfl (fun c108 => absurd c108 (by decide)) (fun _ => ?_)
      refine g_aload_n C 1 dX12_restore_111 rfl rfl rfl ?_
      refine gf_12_28 C (hMo) (v := .ref (m + 7)) rfl dX12_restore_112 rfl ?_
      refine g_iload_n C 0 dX12_restore_115 rfl rfl rfl ?_
      refine g_aload_n C 1 dX12_restore_116 rfl rfl rfl ?_
      refine gf_12_50 C (hMo) (v := .ref (m + 14)) rfl dX12_restore_117 rfl ?_
      refine g_iload_n C 0 dX12_restore_120 rfl rfl rfl ?_
      refine g_iald' C (hR33) (j := 11) rfl (by omega) (by decide) dX12_restore_121 rfl ?_
      refine g_iast' C (hR14) (j := 11) rfl (by omega) (by decide) dX12_restore_122 (pc' := 123) rfl (fun h106 e107 o108 => ?_)
      have hR14 : h106 (m + 7) = some (cI D 12 (upd (upd (upd (upd (upd (upd (upd (upd (upd (upd (upd (upd (gB σ 14) (0) (gB σ 33 (0))) (1) (gB σ 33 (1))) (2) (gB σ 33 (2))) (3) (gB σ 33 (3))) (4) (gB σ 33 (4))) (5) (gB σ 33 (5))) (6) (gB σ 33 (6))) (7) (gB σ 33 (7))) (8) (gB σ 33 (8))) (9) (gB σ 33 (9))) (10) (gB σ 33 (10))) (11) (gB σ 33 (11)))) := e107
      have hMo : h106 (m) = some (.inr (12, [.int (nI (gN σ 0)), .int (nI (gN σ 1)), .ref (m + 1), .int (nI (gN σ 3)), .int (nI (gN σ 4)), .int (gI σ 27), .int (nI (gN σ 28)), .ref (m + 2), .int (nI (gN σ 29)), .ref (m + 3), .ref (m + 4), .ref (m + 5), .ref (m + 6), .int (nI (gN σ 30)), .ref (m + 7), .ref (m + 8), .int (nI (gN σ 16)), .ref (m + 9), .long (s18), .int (s19), .int (s20), .ref (m + 10), .ref (m + 11), .int (s23), .int (s24), .int (nI (gN σ 25)), .int (nI (gN σ 26)), .int (gI σ 27), .int (nI (gN σ 28)), .int (nI (gN σ 29)), .int (nI (gN σ 30)), .ref (m + 12), .ref (m + 13), .ref (m + 14), .ref (m + 15), .long (s35)])) := (o108 _ (by omega)).trans hMo
      have hR2 : h106 (m + 1) = some (cI D 9 (tnS σ)) := (o108 _ (by omega)).trans hR2
      have hR7 : h106 (m + 2) = some (cI D 5 (upd (upd (upd (upd (upd (gB σ 7) (0) (gB σ 31 (0))) (1) (gB σ 31 (1))) (2) (gB σ 31 (2))) (3) (gB σ 31 (3))) (4) (gB σ 31 (4)))) := (o108 _ (by omega)).trans hR7
      have hR9 : h106 (m + 3) = some (cI D 4 (kdS σ)) := (o108 _ (by omega)).trans hR9
      have hR10 : h106 (m + 4) = some (cI D 4 (gB σ 10)) := (o108 _ (by omega)).trans hR10
      have hR11 : h106 (m + 5) = some (cI D 4 (gB σ 11)) := (o108 _ (by omega)).trans hR11
      have hR12 : h106 (m + 6) = some (cI D 4 (upd (upd (upd (upd (gB σ 12) (0) (gB σ 32 (0))) (1) (gB σ 32 (1))) (2) (gB σ 32 (2))) (3) (gB σ 32 (3)))) := (o108 _ (by omega)).trans hR12
      have hR15 : h106 (m + 8) = some (cI D 12 (upd (upd (upd (upd (upd (upd (upd (upd (upd (upd (upd (gB σ 15) (0) (gB σ 34 (0))) (1) (gB σ 34 (1))) (2) (gB σ 34 (2))) (3) (gB σ 34 (3))) (4) (gB σ 34 (4))) (5) (gB σ 34 (5))) (6) (gB σ 34 (6))) (7) (gB σ 34 (7))) (8) (gB σ 34 (8))) (9) (gB σ 34 (9))) (10) (gB σ 34 (10)))) := (o108 _ (by omega)).trans hR15
      have hR17 : h106 (m + 9) = some (cB D 16 (gB σ 17)) := (o108 _ (by omega)).trans hR17
      have hR21 : h106 (m + 10) = some (cI D 5 (f21)) := (o108 _ (by omega)).trans hR21
      have hR22 : h106 (m + 11) = some (cI D 5 (f22)) := (o108 _ (by omega)).trans hR22
      have hR31 : h106 (m + 12) = some (cI D 5 (gB σ 31)) := (o108 _ (by omega)).trans hR31
      have hR32 : h106 (m + 13) = some (cI D 4 (gB σ 32)) := (o108 _ (by omega)).trans hR32
      have hR33 : h106 (m + 14) = some (cI D 12 (gB σ 33)) := (o108 _ (by omega)).trans hR33
      have hR34 : h106 (m + 15) = some (cI D 12 (gB σ 34)) := (o108 _ (by omega)).trans hR34
      have hO : ∀ q, (q < m ∨ m + 16 ≤ q) → h106 q = h q := fun q hq => (o108 q (by omega)).trans (hO q hq)
      refine g_aload_n C 1 dX12_restore_123 rfl rfl rfl ?_
      refine gf_12_31 C (hMo) (v := .ref (m + 8)) rfl dX12_restore_124 rfl ?_
      refine g_iload_n C 0 dX12_restore_127 rfl rfl rfl ?_
      refine g_aload_n C 1 dX12_restore_128 rfl rfl rfl ?_
      refine gf_12_53 C (hMo) (v := .ref (m + 15)) rfl dX12_restore_129 rfl ?_
      refine g_iload_n C 0 dX12_restore_132 rfl rfl rfl ?_
      refine g_iald' C (hR34) (j := 11) rfl (by omega) (by decide) dX12_restore_133 rfl ?_
      refine g_iast' C (hR15) (j := 11) rfl (by omega) (by decide) dX12_restore_134 (pc' := 135) rfl (fun h109 e110 o111 => ?_)
      have hR15 : h109 (m + 8) = some (cI D 12 (upd (upd (upd (upd (upd (upd (upd (upd (upd (upd (upd (upd (gB σ 15) (0) (gB σ 34 (0))) (1) (gB σ 34 (1))) (2) (gB σ 34 (2))) (3) (gB σ 34 (3))) (4) (gB σ 34 (4))) (5) (gB σ 34 (5))) (6) (gB σ 34 (6))) (7) (gB σ 34 (7))) (8) (gB σ 34 (8))) (9) (gB σ 34 (9))) (10) (gB σ 34 (10))) (11) (gB σ 34 (11)))) := e110
      have hMo : h109 (m) = some (.inr (12, [.int (nI (gN σ 0)), .int (nI (gN σ 1)), .ref (m + 1), .int (nI (gN σ 3)), .int (nI (gN σ 4)), .int (gI σ 27), .int (nI (gN σ 28)), .ref (m + 2), .int (nI (gN σ 29)), .ref (m + 3), .ref (m + 4), .ref (m + 5), .ref (m + 6), .int (nI (gN σ 30)), .ref (m + 7), .ref (m + 8), .int (nI (gN σ 16)), .ref (m + 9), .long (s18), .int (s19), .int (s20), .ref (m + 10), .ref (m + 11), .int (s23), .int (s24), .int (nI (gN σ 25)), .int (nI (gN σ 26)), .int (gI σ 27), .int (nI (gN σ 28)), .int (nI (gN σ 29)), .int (nI (gN σ 30)), .ref (m + 12), .ref (m + 13), .ref (m + 14), .ref (m + 15), .long (s35)])) := (o111 _ (by omega)).trans hMo
      have hR2 : h109 (m + 1) = some (cI D 9 (tnS σ)) := (o111 _ (by omega)).trans hR2
      have hR7 : h109 (m + 2) = some (cI D 5 (upd (upd (upd (upd (upd (gB σ 7) (0) (gB σ 31 (0))) (1) (gB σ 31 (1))) (2) (gB σ 31 (2))) (3) (gB σ 31 (3))) (4) (gB σ 31 (4)))) := (o111 _ (by omega)).trans hR7
      have hR9 : h109 (m + 3) = some (cI D 4 (kdS σ)) := (o111 _ (by omega)).trans hR9
      have hR10 : h109 (m + 4) = some (cI D 4 (gB σ 10)) := (o111 _ (by omega)).trans hR10
      have hR11 : h109 (m + 5) = some (cI D 4 (gB σ 11)) := (o111 _ (by omega)).trans hR11
      have hR12 : h109 (m + 6) = some (cI D 4 (upd (upd (upd (upd (gB σ 12) (0) (gB σ 32 (0))) (1) (gB σ 32 (1))) (2) (gB σ 32 (2))) (3) (gB σ 32 (3)))) := (o111 _ (by omega)).trans hR12
      have hR14 : h109 (m + 7) = some (cI D 12 (upd (upd (upd (upd (upd (upd (upd (upd (upd (upd (upd (upd (gB σ 14) (0) (gB σ 33 (0))) (1) (gB σ 33 (1))) (2) (gB σ 33 (2))) (3) (gB σ 33 (3))) (4) (gB σ 33 (4))) (5) (gB σ 33 (5))) (6) (gB σ 33 (6))) (7) (gB σ 33 (7))) (8) (gB σ 33 (8))) (9) (gB σ 33 (9))) (10) (gB σ 33 (10))) (11) (gB σ 33 (11)))) := (o111 _ (by omega)).trans hR14
      have hR17 : h109 (m + 9) = some (cB D 16 (gB σ 17)) := (o111 _ (by omega)).trans hR17
      have hR21 : h109 (m + 10) = some (cI D 5 (f21)) := (o111 _ (by omega)).trans hR21
      have hR22 : h109 (m + 11) = some (cI D 5 (f22)) := (o111 _ (by omega)).trans hR22
      have hR31 : h109 (m + 12) = some (cI D 5 (gB σ 31)) := (o111 _ (by omega)).trans hR31
      have hR32 : h109 (m + 13) = some (cI D 4 (gB σ 32)) := (o111 _ (by omega)).trans hR32
      have hR33 : h109 (m + 14) = some (cI D 12 (gB σ 33)) := (o111 _ (by omega)).trans hR33
      have hR34 : h109 (m + 15) = some (cI D 12 (gB σ 34)) := (o111 _ (by omega)).trans hR34
      have hO : ∀ q, (q < m ∨ m + 16 ≤ q) → h109 q = h q := fun q hq => (o111 q (by omega)).trans (hO q hq)
      refine g_iinc C (v := 12) 0 ([(1, .int (12)), (0, .ref (m))]) dX12_restore_135 rfl (by decide) (by decide) rfl rfl ?_
      refine g_goto C dX12_restore_138 (tgt := 105) (by decide) ?_
      refine g_iload_n C 0 dX12_restore_105 rfl rfl rfl ?_
      refine g_bipush C (v := 12) dX12_restore_106 (by decide) rfl ?_
      refine g_icmp_ge C dX12_restore_108 (tgt := 141) (by decide) (pc' := 111) rfl (fun _ => ?_) (fun c108 => absurd (by decide) c108)
      refine g_aload_n C 1 dX12_restore_141 rfl rfl rfl ?_
      refine gf_12_89 C (hMo) (v := .int (gI σ 27)) rfl dX12_restore_142 rfl ?_
      refine g_canon C (hR7) (g := gB σ 31) (lt5d rfl rfl rfl rfl rfl) (fun h112 e113 o114 => ?_)
      have hR7 : h112 (m + 2) = some (cI D 5 (gB σ 31)) := e113
      have hMo : h112 (m) = some (.inr (12, [.int (nI (gN σ 0)), .int (nI (gN σ 1)), .ref (m + 1), .int (nI (gN σ 3)), .int (nI (gN σ 4)), .int (gI σ 27), .int (nI (gN σ 28)), .ref (m + 2), .int (nI (gN σ 29)), .ref (m + 3), .ref (m + 4), .ref (m + 5), .ref (m + 6), .int (nI (gN σ 30)), .ref (m + 7), .ref (m + 8), .int (nI (gN σ 16)), .ref (m + 9), .long (s18), .int (s19), .int (s20), .ref (m + 10), .ref (m + 11), .int (s23), .int (s24), .int (nI (gN σ 25)), .int (nI (gN σ 26)), .int (gI σ 27), .int (nI (gN σ 28)), .int (nI (gN σ 29)), .int (nI (gN σ 30)), .ref (m + 12), .ref (m + 13), .ref (m + 14), .ref (m + 15), .long (s35)])) := (o114 _ (by omega)).trans hMo
      have hR2 : h112 (m + 1) = some (cI D 9 (tnS σ)) := (o114 _ (by omega)).trans hR2
      have hR9 : h112 (m + 3) = some (cI D 4 (kdS σ)) := (o114 _ (by omega)).trans hR9
      have hR10 : h112 (m + 4) = some (cI D 4 (gB σ 10)) := (o114 _ (by omega)).trans hR10
      have hR11 : h112 (m + 5) = some (cI D 4 (gB σ 11)) := (o114 _ (by omega)).trans hR11
      have hR12 : h112 (m + 6) = some (cI D 4 (upd (upd (upd (upd (gB σ 12) (0) (gB σ 32 (0))) (1) (gB σ 32 (1))) (2) (gB σ 32 (2))) (3) (gB σ 32 (3)))) := (o114 _ (by omega)).trans hR12
      have hR14 : h112 (m + 7) = some (cI D 12 (upd (upd (upd (upd (upd (upd (upd (upd (upd (upd (upd (upd (gB σ 14) (0) (gB σ 33 (0))) (1) (gB σ 33 (1))) (2) (gB σ 33 (2))) (3) (gB σ 33 (3))) (4) (gB σ 33 (4))) (5) (gB σ 33 (5))) (6) (gB σ 33 (6))) (7) (gB σ 33 (7))) (8) (gB σ 33 (8))) (9) (gB σ 33 (9))) (10) (gB σ 33 (10))) (11) (gB σ 33 (11)))) := (o114 _ (by omega)).trans hR14
      have hR15 : h112 (m + 8) = some (cI D 12 (upd (upd (upd (upd (upd (upd (upd (upd (upd (upd (upd (upd (gB σ 15) (0) (gB σ 34 (0))) (1) (gB σ 34 (1))) (2) (gB σ 34 (2))) (3) (gB σ 34 (3))) (4) (gB σ 34 (4))) (5) (gB σ 34 (5))) (6) (gB σ 34 (6))) (7) (gB σ 34 (7))) (8) (gB σ 34 (8))) (9) (gB σ 34 (9))) (10) (gB σ 34 (10))) (11) (gB σ 34 (11)))) := (o114 _ (by omega)).trans hR15
      have hR17 : h112 (m + 9) = some (cB D 16 (gB σ 17)) := (o114 _ (by omega)).trans hR17
      have hR21 : h112 (m + 10) = some (cI D 5 (f21)) := (o114 _ (by omega)).trans hR21
      have hR22 : h112 (m + 11) = some (cI D 5 (f22)) := (o114 _ (by omega)).trans hR22
      have hR31 : h112 (m + 12) = some (cI D 5 (gB σ 31)) := (o114 _ (by omega)).trans hR31
      have hR32 : h112 (m + 13) = some (cI D 4 (gB σ 32)) := (o114 _ (by omega)).trans hR32
      have hR33 : h112 (m + 14) = some (cI D 12 (gB σ 33)) := (o114 _ (by omega)).trans hR33
      have hR34 : h112 (m + 15) = some (cI D 12 (gB σ 34)) := (o114 _ (by omega)).trans hR34
      have hO : ∀ q, (q < m ∨ m + 16 ≤ q) → h112 q = h q := fun q hq => (o114 q (by omega)).trans (hO q hq)
      refine g_canon C (hR12) (g := gB σ 32) (lt4d rfl rfl rfl rfl) (fun h115 e116 o117 => ?_)
      have hR12 : h115 (m + 6) = some (cI D 4 (gB σ 32)) := e116
      have hMo : h115 (m) = some (.inr (12, [.int (nI (gN σ 0)), .int (nI (gN σ 1)), .ref (m + 1), .int (nI (gN σ 3)), .int (nI (gN σ 4)), .int (gI σ 27), .int (nI (gN σ 28)), .ref (m + 2), .int (nI (gN σ 29)), .ref (m + 3), .ref (m + 4), .ref (m + 5), .ref (m + 6), .int (nI (gN σ 30)), .ref (m + 7), .ref (m + 8), .int (nI (gN σ 16)), .ref (m + 9), .long (s18), .int (s19), .int (s20), .ref (m + 10), .ref (m + 11), .int (s23), .int (s24), .int (nI (gN σ 25)), .int (nI (gN σ 26)), .int (gI σ 27), .int (nI (gN σ 28)), .int (nI (gN σ 29)), .int (nI (gN σ 30)), .ref (m + 12), .ref (m + 13), .ref (m + 14), .ref (m + 15), .long (s35)])) := (o117 _ (by omega)).trans hMo
      have hR2 : h115 (m + 1) = some (cI D 9 (tnS σ)) := (o117 _ (by omega)).trans hR2
      have hR7 : h115 (m + 2) = some (cI D 5 (gB σ 31)) := (o117 _ (by omega)).trans hR7
      have hR9 : h115 (m + 3) = some (cI D 4 (kdS σ)) := (o117 _ (by omega)).trans hR9
      have hR10 : h115 (m + 4) = some (cI D 4 (gB σ 10)) := (o117 _ (by omega)).trans hR10
      have hR11 : h115 (m + 5) = some (cI D 4 (gB σ 11)) := (o117 _ (by omega)).trans hR11
      have hR14 : h115 (m + 7) = some (cI D 12 (upd (upd (upd (upd (upd (upd (upd (upd (upd (upd (upd (upd (gB σ 14) (0) (gB σ 33 (0))) (1) (gB σ 33 (1))) (2) (gB σ 33 (2))) (3) (gB σ 33 (3))) (4) (gB σ 33 (4))) (5) (gB σ 33 (5))) (6) (gB σ 33 (6))) (7) (gB σ 33 (7))) (8) (gB σ 33 (8))) (9) (gB σ 33 (9))) (10) (gB σ 33 (10))) (11) (gB σ 33 (11)))) := (o117 _ (by omega)).trans hR14
      have hR15 : h115 (m + 8) = some (cI D 12 (upd (upd (upd (upd (upd (upd (upd (upd (upd (upd (upd (upd (gB σ 15) (0) (gB σ 34 (0))) (1) (gB σ 34 (1))) (2) (gB σ 34 (2))) (3) (gB σ 34 (3))) (4) (gB σ 34 (4))) (5) (gB σ 34 (5))) (6) (gB σ 34 (6))) (7) (gB σ 34 (7))) (8) (gB σ 34 (8))) (9) (gB σ 34 (9))) (10) (gB σ 34 (10))) (11) (gB σ 34 (11)))) := (o117 _ (by omega)).trans hR15
      have hR17 : h115 (m + 9) = some (cB D 16 (gB σ 17)) := (o117 _ (by omega)).trans hR17
      have hR21 : h115 (m + 10) = some (cI D 5 (f21)) := (o117 _ (by omega)).trans hR21
      have hR22 : h115 (m + 11) = some (cI D 5 (f22)) := (o117 _ (by omega)).trans hR22
      have hR31 : h115 (m + 12) = some (cI D 5 (gB σ 31)) := (o117 _ (by omega)).trans hR31
      have hR32 : h115 (m + 13) = some (cI D 4 (gB σ 32)) := (o117 _ (by omega)).trans hR32
      have hR33 : h115 (m + 14) = some (cI D 12 (gB σ 33)) := (o117 _ (by omega)).trans hR33
      have hR34 : h115 (m + 15) = some (cI D 12 (gB σ 34)) := (o117 _ (by omega)).trans hR34
      have hO : ∀ q, (q < m ∨ m + 16 ≤ q) → h115 q = h q := fun q hq => (o117 q (by omega)).trans (hO q hq)
      refine g_canon C (hR14) (g := gB σ 33) (lt12d rfl rfl rfl rfl rfl rfl rfl rfl rfl rfl rfl rfl) (fun h118 e119 o120 => ?_)
      have hR14 : h118 (m + 7) = some (cI D 12 (gB σ 33)) := e119
      have hMo : h118 (m) = some (.inr (12, [.int (nI (gN σ 0)), .int (nI (gN σ 1)), .ref (m + 1), .int (nI (gN σ 3)), .int (nI (gN σ 4)), .int (gI σ 27), .int (nI (gN σ 28)), .ref (m + 2), .int (nI (gN σ 29)), .ref (m + 3), .ref (m + 4), .ref (m + 5), .ref (m + 6), .int (nI (gN σ 30)), .ref (m + 7), .ref (m + 8), .int (nI (gN σ 16)), .ref (m + 9), .long (s18), .int (s19), .int (s20), .ref (m + 10), .ref (m + 11), .int (s23), .int (s24), .int (nI (gN σ 25)), .int (nI (gN σ 26)), .int (gI σ 27), .int (nI (gN σ 28)), .int (nI (gN σ 29)), .int (nI (gN σ 30)), .ref (m + 12), .ref (m + 13), .ref (m + 14), .ref (m + 15), .long (s35)])) := (o120 _ (by omega)).trans hMo
      have hR2 : h118 (m + 1) = some (cI D 9 (tnS σ)) := (o120 _ (by omega)).trans hR2
      have hR7 : h118 (m + 2) = some (cI D 5 (gB σ 31)) := (o120 _ (by omega)).trans hR7
      have hR9 : h118 (m + 3) = some (cI D 4 (kdS σ)) := (o120 _ (by omega)).trans hR9
      have hR10 : h118 (m + 4) = some (cI D 4 (gB σ 10)) := (o120 _ (by omega)).trans hR10
      have hR11 : h118 (m + 5) = some (cI D 4 (gB σ 11)) := (o120 _ (by omega)).trans hR11
      have hR12 : h118 (m + 6) = some (cI D 4 (gB σ 32)) := (o120 _ (by omega)).trans hR12
      have hR15 : h118 (m + 8) = some (cI D 12 (upd (upd (upd (upd (upd (upd (upd (upd (upd (upd (upd (upd (gB σ 15) (0) (gB σ 34 (0))) (1) (gB σ 34 (1))) (2) (gB σ 34 (2))) (3) (gB σ 34 (3))) (4) (gB σ 34 (4))) (5) (gB σ 34 (5))) (6) (gB σ 34 (6))) (7) (gB σ 34 (7))) (8) (gB σ 34 (8))) (9) (gB σ 34 (9))) (10) (gB σ 34 (10))) (11) (gB σ 34 (11)))) := (o120 _ (by omega)).trans hR15
      have hR17 : h118 (m + 9) = some (cB D 16 (gB σ 17)) := (o120 _ (by omega)).trans hR17
      have hR21 : h118 (m + 10) = some (cI D 5 (f21)) := (o120 _ (by omega)).trans hR21
      have hR22 : h118 (m + 11) = some (cI D 5 (f22)) := (o120 _ (by omega)).trans hR22
      have hR31 : h118 (m + 12) = some (cI D 5 (gB σ 31)) := (o120 _ (by omega)).trans hR31
      have hR32 : h118 (m + 13) = some (cI D 4 (gB σ 32)) := (o120 _ (by omega)).trans hR32
      have hR33 : h118 (m + 14) = some (cI D 12 (gB σ 33)) := (o120 _ (by omega)).trans hR33
      have hR34 : h118 (m + 15) = some (cI D 12 (gB σ 34)) := (o120 _ (by omega)).trans hR34
      have hO : ∀ q, (q < m ∨ m + 16 ≤ q) → h118 q = h q := fun q hq => (o120 q (by omega)).trans (hO q hq)
      refine g_canon C (hR15) (g := gB σ 34) (lt12d rfl rfl rfl rfl rfl rfl rfl rfl rfl rfl rfl rfl) (fun h121 e122 o123 => ?_)
      have hR15 : h121 (m + 8) = some (cI D 12 (gB σ 34)) := e122
      have hMo : h121 (m) = some (.inr (12, [.int (nI (gN σ 0)), .int (nI (gN σ 1)), .ref (m + 1), .int (nI (gN σ 3)), .int (nI (gN σ 4)), .int (gI σ 27), .int (nI (gN σ 28)), .ref (m + 2), .int (nI (gN σ 29)), .ref (m + 3), .ref (m + 4), .ref (m + 5), .ref (m + 6), .int (nI (gN σ 30)), .ref (m + 7), .ref (m + 8), .int (nI (gN σ 16)), .ref (m + 9), .long (s18), .int (s19), .int (s20), .ref (m + 10), .ref (m + 11), .int (s23), .int (s24), .int (nI (gN σ 25)), .int (nI (gN σ 26)), .int (gI σ 27), .int (nI (gN σ 28)), .int (nI (gN σ 29)), .int (nI (gN σ 30)), .ref (m + 12), .ref (m + 13), .ref (m + 14), .ref (m + 15), .long (s35)])) := (o123 _ (by omega)).trans hMo
      have hR2 : h121 (m + 1) = some (cI D 9 (tnS σ)) := (o123 _ (by omega)).trans hR2
      have hR7 : h121 (m + 2) = some (cI D 5 (gB σ 31)) := (o123 _ (by omega)).trans hR7
      have hR9 : h121 (m + 3) = some (cI D 4 (kdS σ)) := (o123 _ (by omega)).trans hR9
      have hR10 : h121 (m + 4) = some (cI D 4 (gB σ 10)) := (o123 _ (by omega)).trans hR10
      have hR11 : h121 (m + 5) = some (cI D 4 (gB σ 11)) := (o123 _ (by omega)).trans hR11
      have hR12 : h121 (m + 6) = some (cI D 4 (gB σ 32)) := (o123 _ (by omega)).trans hR12
      have hR14 : h121 (m + 7) = some (cI D 12 (gB σ 33)) := (o123 _ (by omega)).trans hR14
      have hR17 : h121 (m + 9) = some (cB D 16 (gB σ 17)) := (o123 _ (by omega)).trans hR17
      have hR21 : h121 (m + 10) = some (cI D 5 (f21)) := (o123 _ (by omega)).trans hR21
      have hR22 : h121 (m + 11) = some (cI D 5 (f22)) := (o123 _ (by omega)).trans hR22
      have hR31 : h121 (m + 12) = some (cI D 5 (gB σ 31)) := (o123 _ (by omega)).trans hR31
      have hR32 : h121 (m + 13) = some (cI D 4 (gB σ 32)) := (o123 _ (by omega)).trans hR32
      have hR33 : h121 (m + 14) = some (cI D 12 (gB σ 33)) := (o123 _ (by omega)).trans hR33
      have hR34 : h121 (m + 15) = some (cI D 12 (gB σ 34)) := (o123 _ (by omega)).trans hR34
      have hO : ∀ q, (q < m ∨ m + 16 ≤ q) → h121 q = h q := fun q hq => (o123 q (by omega)).trans (hO q hq)
      have hM : MdO h121 m (rsN σ) (s18) (s19) (s20) (s23) (s24) (s35) := hMo
      have hR : MdR D h121 m (rsN σ) (f21) (f22) := ⟨hR2, hR7, hR9, hR10, hR11, hR12, hR14, hR15, hR17, hR21, hR22, hR31, hR32, hR33, hR34⟩
      exact ret _ _ _ _ dX12_restore_145 rfl (⟨by unfold mRestore; rw [cIf_t ⟨by omega, c15⟩]; exact ⟨rfl, ⟨_, _, _, _, _, _, _, _, hM, hR⟩⟩, hO⟩)
    · intro c15
      replace c15 := (not_congr (nI_eq (a := gN σ 26) (b := gN σ 1) (by omega) (by omega))).mp c15
      refine g_bipush C (v := -103) dX12_restore_18 (by decide) rfl ?_
      exact ret _ _ _ _ dX12_restore_20 rfl (⟨by unfold mRestore; rw [cIf_f (fun g => c15 g.2)]; exact ⟨rfl, ⟨_, _, _, _, _, _, _, _, hM, hR⟩⟩, fun _ _ => rfl⟩)

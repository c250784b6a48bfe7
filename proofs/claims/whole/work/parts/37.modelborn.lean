/-! a new model -/
set_option maxHeartbeats 4000000 in
set_option maxRecDepth 100000 in
theorem k_X12_init (l : Launch) (D : va_G) (b : Nat) {h : qH} {m : Nat} (hO : h m = some (.inr (12, [.int (0), .int (0), .null, .int (0), .int (0), .int (0), .int (0), .null, .int (0), .null, .null, .null, .null, .int (0), .null, .null, .int (0), .null, .long (0), .int (0), .int (0), .null, .null, .int (0), .int (0), .int (0), .int (0), .int (0), .int (0), .int (0), .int (0), .null, .null, .null, .null, .long (0)]))) : qMc l D b yX12_init cX12_init 1 1 20 15 113 [.ref (m)] h (m + 1) (fun h' => MdlAt D h' m sg0 ∧ ∀ q, q < m → h' q = h q) := by
  refine q_c (L := [(0, .ref (m))]) (own := RX12) (by decide) rfl (Nat.le_of_ble_eq_true rfl) rfl ?_
  intro X C hin ret
  have hF : ∀ q, (q < m) → h q = h q := fun _ _ => rfl
  refine g_aload_n C 0 dX12_init_0 rfl rfl rfl ?_
  refine g_objInit C hw_12_1 ⟨Nat.le_of_ble_eq_true rfl, Nat.le_of_ble_eq_true rfl⟩ dX12_init_1 rfl ?_
  refine g_aload_n C 0 dX12_init_4 rfl rfl rfl ?_
  refine g_bipush C (v := 9) dX12_init_5 (by decide) rfl ?_
  refine g_newI C (N := 9) rfl (by decide) (AW_m 85 (by decide +kernel) rfl) ⟨Nat.le_of_ble_eq_true rfl, Nat.le_of_ble_eq_true rfl⟩ dX12_init_7 (pc' := 9) rfl (fun h1 e2 o3 => ?_)
  have hN3 : h1 (m + 1) = some (cI D 9 (fun _ => 0)) := e2
  have hO : h1 (m) = some (.inr (12, [.int (0), .int (0), .null, .int (0), .int (0), .int (0), .int (0), .null, .int (0), .null, .null, .null, .null, .int (0), .null, .null, .int (0), .null, .long (0), .int (0), .int (0), .null, .null, .int (0), .int (0), .int (0), .int (0), .int (0), .int (0), .int (0), .int (0), .null, .null, .null, .null, .long (0)])) := (o3 _ (by omega)).trans hO
  have hF : ∀ q, (q < m) → h1 q = h q := fun q hq => (o3 q (by omega)).trans (hF q hq)
  show qG X 1 9 (m + 2) h1 9 [(0, .ref (m))] [.ref (m + 1), .ref (m)]
  refine pf_12_7 C hin (hO) (v := .ref (m + 1)) rfl rfl (Nat.le_of_ble_eq_true rfl) dX12_init_9 (pc' := 12) rfl (fun h4 e5 o6 => ?_)
  have hO : h4 (m) = some (.inr (12, [.int (0), .int (0), .ref (m + 1), .int (0), .int (0), .int (0), .int (0), .null, .int (0), .null, .null, .null, .null, .int (0), .null, .null, .int (0), .null, .long (0), .int (0), .int (0), .null, .null, .int (0), .int (0), .int (0), .int (0), .int (0), .int (0), .int (0), .int (0), .null, .null, .null, .null, .long (0)])) := e5
  have hF : ∀ q, (q < m) → h4 q = h q := fun q hq => (o6 q (by omega)).trans (hF q hq)
  have hN3 : h4 (m + 1) = some (cI D 9 (fun _ => 0)) := (o6 _ (by omega)).trans hN3
  refine g_aload_n C 0 dX12_init_12 rfl rfl rfl ?_
  refine g_iconst C (v := 5) dX12_init_13 (by decide) rfl ?_
  refine g_newI C (N := 5) rfl (by decide) (AW_m 85 (by decide +kernel) rfl) ⟨Nat.le_of_ble_eq_true rfl, Nat.le_of_ble_eq_true rfl⟩ dX12_init_14 (pc' := 16) rfl (fun h7 e8 o9 => ?_)
  have hN9 : h7 (m + 2) = some (cI D 5 (fun _ => 0)) := e8
  have hO : h7 (m) = some (.inr (12, [.int (0), .int (0), .ref (m + 1), .int (0), .int (0), .int (0), .int (0), .null, .int (0), .null, .null, .null, .null, .int (0), .null, .null, .int (0), .null, .long (0), .int (0), .int (0), .null, .null, .int (0), .int (0), .int (0), .int (0), .int (0), .int (0), .int (0), .int (0), .null, .null, .null, .null, .long (0)])) := (o9 _ (by omega)).trans hO
  have hF : ∀ q, (q < m) → h7 q = h q := fun q hq => (o9 q (by omega)).trans (hF q hq)
  have hN3 : h7 (m + 1) = some (cI D 9 (fun _ => 0)) := (o9 _ (by omega)).trans hN3
  show qG X 2 14 (m + 3) h7 16 [(0, .ref (m))] [.ref (m + 2), .ref (m)]
  refine g_dup C rfl dX12_init_16 rfl ?_
  refine g_iconst C (v := 0) dX12_init_17 (by decide) rfl ?_
  refine g_iconst C (v := -1) dX12_init_18 (by decide) rfl ?_
  refine g_iast' C (hN9) (j := 0) rfl (by omega) (by decide) dX12_init_19 (pc' := 20) rfl (fun h10 e11 o12 => ?_)
  have hN9 : h10 (m + 2) = some (cI D 5 (upd (fun _ => 0) (0) ((-1)))) := e11
  have hO : h10 (m) = some (.inr (12, [.int (0), .int (0), .ref (m + 1), .int (0), .int (0), .int (0), .int (0), .null, .int (0), .null, .null, .null, .null, .int (0), .null, .null, .int (0), .null, .long (0), .int (0), .int (0), .null, .null, .int (0), .int (0), .int (0), .int (0), .int (0), .int (0), .int (0), .int (0), .null, .null, .null, .null, .long (0)])) := (o12 _ (by omega)).trans hO
  have hF : ∀ q, (q < m) → h10 q = h q := fun q hq => (o12 q (by omega)).trans (hF q hq)
  have hN3 : h10 (m + 1) = some (cI D 9 (fun _ => 0)) := (o12 _ (by omega)).trans hN3
  refine g_dup C rfl dX12_init_20 rfl ?_
  refine g_iconst C (v := 1) dX12_init_21 (by decide) rfl ?_
  refine g_iconst C (v := -1) dX12_init_22 (by decide) rfl ?_
  refine g_iast' C (hN9) (j := 1) rfl (by omega) (by decide) dX12_init_23 (pc' := 24) rfl (fun h13 e14 o15 => ?_)
  have hN9 : h13 (m + 2) = some (cI D 5 (upd (upd (fun _ => 0) (0) ((-1))) (1) ((-1)))) := e14
  have hO : h13 (m) = some (.inr (12, [.int (0), .int (0), .ref (m + 1), .int (0), .int (0), .int (0), .int (0), .null, .int (0), .null, .null, .null, .null, .int (0), .null, .null, .int (0), .null, .long (0), .int (0), .int (0), .null, .null, .int (0), .int (0), .int (0), .int (0), .int (0), .int (0), .int (0), .int (0), .null, .null, .null, .null, .long (0)])) := (o15 _ (by omega)).trans hO
  have hF : ∀ q, (q < m) → h13 q = h q := fun q hq => (o15 q (by omega)).trans (hF q hq)
  have hN3 : h13 (m + 1) = some (cI D 9 (fun _ => 0)) := (o15 _ (by omega)).trans hN3
  refine g_dup C rfl dX12_init_24 rfl ?_
  refine g_iconst C (v := 2) dX12_init_25 (by decide) rfl ?_
  refine g_iconst C (v := -1) dX12_init_26 (by decide) rfl ?_
  refine g_iast' C (hN9) (j := 2) rfl (by omega) (by decide) dX12_init_27 (pc' := 28) rfl (fun h16 e17 o18 => ?_)
  have hN9 : h16 (m + 2) = some (cI D 5 (upd (upd (upd (fun _ => 0) (0) ((-1))) (1) ((-1))) (2) ((-1)))) := e17
  have hO : h16 (m) = some (.inr (12, [.int (0), .int (0), .ref (m + 1), .int (0), .int (0), .int (0), .int (0), .null, .int (0), .null, .null, .null, .null, .int (0), .null, .null, .int (0), .null, .long (0), .int (0), .int (0), .null, .null, .int (0), .int (0), .int (0), .int (0), .int (0), .int (0), .int (0), .int (0), .null, .null, .null, .null, .long (0)])) := (o18 _ (by omega)).trans hO
  have hF : ∀ q, (q < m) → h16 q = h q := fun q hq => (o18 q (by omega)).trans (hF q hq)
  have hN3 : h16 (m + 1) = some (cI D 9 (fun _ => 0)) := (o18 _ (by omega)).trans hN3
  refine g_dup C rfl dX12_init_28 rfl ?_
  refine g_iconst C (v := 3) dX12_init_29 (by decide) rfl ?_
  refine g_iconst C (v := -1) dX12_init_30 (by decide) rfl ?_
  refine g_iast' C (hN9) (j := 3) rfl (by omega) (by decide) dX12_init_31 (pc' := 32) rfl (fun h19 e20 o21 => ?_)
  have hN9 : h19 (m + 2) = some (cI D 5 (upd (upd (upd (upd (fun _ => 0) (0) ((-1))) (1) ((-1))) (2) ((-1))) (3) ((-1)))) := e20
  have hO : h19 (m) = some (.inr (12, [.int (0), .int (0), .ref (m + 1), .int (0), .int (0), .int (0), .int (0), .null, .int (0), .null, .null, .null, .null, .int (0), .null, .null, .int (0), .null, .long (0), .int (0), .int (0), .null, .null, .int (0), .int (0), .int (0), .int (0), .int (0), .int (0), .int (0), .int (0), .null, .null, .null, .null, .long (0)])) := (o21 _ (by omega)).trans hO
  have hF : ∀ q, (q < m) → h19 q = h q := fun q hq => (o21 q (by omega)).trans (hF q hq)
  have hN3 : h19 (m + 1) = some (cI D 9 (fun _ => 0)) := (o21 _ (by omega)).trans hN3
  refine g_dup C rfl dX12_init_32 rfl ?_
  refine g_iconst C (v := 4) dX12_init_33 (by decide) rfl ?_
  refine g_iconst C (v := -1) dX12_init_34 (by decide) rfl ?_
  refine g_iast' C (hN9) (j := 4) rfl (by omega) (by decide) dX12_init_35 (pc' := 36) rfl (fun h22 e23 o24 => ?_)
  have hN9 : h22 (m + 2) = some (cI D 5 (upd (upd (upd (upd (upd (fun _ => 0) (0) ((-1))) (1) ((-1))) (2) ((-1))) (3) ((-1))) (4) ((-1)))) := e23
  have hO : h22 (m) = some (.inr (12, [.int (0), .int (0), .ref (m + 1), .int (0), .int (0), .int (0), .int (0), .null, .int (0), .null, .null, .null, .null, .int (0), .null, .null, .int (0), .null, .long (0), .int (0), .int (0), .null, .null, .int (0), .int (0), .int (0), .int (0), .int (0), .int (0), .int (0), .int (0), .null, .null, .null, .null, .long (0)])) := (o24 _ (by omega)).trans hO
  have hF : ∀ q, (q < m) → h22 q = h q := fun q hq => (o24 q (by omega)).trans (hF q hq)
  have hN3 : h22 (m + 1) = some (cI D 9 (fun _ => 0)) := (o24 _ (by omega)).trans hN3
  refine pf_12_13 C hin (hO) (v := .ref (m + 2)) rfl rfl (Nat.le_of_ble_eq_true rfl) dX12_init_36 (pc' := 39) rfl (fun h25 e26 o27 => ?_)
  have hO : h25 (m) = some (.inr (12, [.int (0), .int (0), .ref (m + 1), .int (0), .int (0), .int (0), .int (0), .ref (m + 2), .int (0), .null, .null, .null, .null, .int (0), .null, .null, .int (0), .null, .long (0), .int (0), .int (0), .null, .null, .int (0), .int (0), .int (0), .int (0), .int (0), .int (0), .int (0), .int (0), .null, .null, .null, .null, .long (0)])) := e26
  have hF : ∀ q, (q < m) → h25 q = h q := fun q hq => (o27 q (by omega)).trans (hF q hq)
  have hN3 : h25 (m + 1) = some (cI D 9 (fun _ => 0)) := (o27 _ (by omega)).trans hN3
  have hN9 : h25 (m + 2) = some (cI D 5 (upd (upd (upd (upd (upd (fun _ => 0) (0) ((-1))) (1) ((-1))) (2) ((-1))) (3) ((-1))) (4) ((-1)))) := (o27 _ (by omega)).trans hN9
  refine g_aload_n C 0 dX12_init_39 rfl rfl rfl ?_
  refine g_iconst C (v := 4) dX12_init_40 (by decide) rfl ?_
  refine g_newI C (N := 4) rfl (by decide) (AW_m 85 (by decide +kernel) rfl) ⟨Nat.le_of_ble_eq_true rfl, Nat.le_of_ble_eq_true rfl⟩ dX12_init_41 (pc' := 43) rfl (fun h28 e29 o30 => ?_)
  have hN30 : h28 (m + 3) = some (cI D 4 (fun _ => 0)) := e29
  have hO : h28 (m) = some (.inr (12, [.int (0), .int (0), .ref (m + 1), .int (0), .int (0), .int (0), .int (0), .ref (m + 2), .int (0), .null, .null, .null, .null, .int (0), .null, .null, .int (0), .null, .long (0), .int (0), .int (0), .null, .null, .int (0), .int (0), .int (0), .int (0), .int (0), .int (0), .int (0), .int (0), .null, .null, .null, .null, .long (0)])) := (o30 _ (by omega)).trans hO
  have hF : ∀ q, (q < m) → h28 q = h q := fun q hq => (o30 q (by omega)).trans (hF q hq)
  have hN3 : h28 (m + 1) = some (cI D 9 (fun _ => 0)) := (o30 _ (by omega)).trans hN3
  have hN9 : h28 (m + 2) = some (cI D 5 (upd (upd (upd (upd (upd (fun _ => 0) (0) ((-1))) (1) ((-1))) (2) ((-1))) (3) ((-1))) (4) ((-1)))) := (o30 _ (by omega)).trans hN9
  show qG X 3 18 (m + 4) h28 43 [(0, .ref (m))] [.ref (m + 3), .ref (m)]
  refine pf_12_16 C hin (hO) (v := .ref (m + 3)) rfl rfl (Nat.le_of_ble_eq_true rfl) dX12_init_43 (pc' := 46) rfl (fun h31 e32 o33 => ?_)
  have hO : h31 (m) = some (.inr (12, [.int (0), .int (0), .ref (m + 1), .int (0), .int (0), .int (0), .int (0), .ref (m + 2), .int (0), .ref (m + 3), .null, .null, .null, .int (0), .null, .null, .int (0), .null, .long (0), .int (0), .int (0), .null, .null, .int (0), .int (0), .int (0), .int (0), .int (0), .int (0), .int (0), .int (0), .null, .null, .null, .null, .long (0)])) := e32
  have hF : ∀ q, (q < m) → h31 q = h q := fun q hq => (o33 q (by omega)).trans (hF q hq)
  have hN3 : h31 (m + 1) = some (cI D 9 (fun _ => 0)) := (o33 _ (by omega)).trans hN3
  have hN9 : h31 (m + 2) = some (cI D 5 (upd (upd (upd (upd (upd (fun _ => 0) (0) ((-1))) (1) ((-1))) (2) ((-1))) (3) ((-1))) (4) ((-1)))) := (o33 _ (by omega)).trans hN9
  have hN30 : h31 (m + 3) = some (cI D 4 (fun _ => 0)) := (o33 _ (by omega)).trans hN30
  refine g_aload_n C 0 dX12_init_46 rfl rfl rfl ?_
  refine g_iconst C (v := 4) dX12_init_47 (by decide) rfl ?_
  refine g_newI C (N := 4) rfl (by decide) (AW_m 85 (by decide +kernel) rfl) ⟨Nat.le_of_ble_eq_true rfl, Nat.le_of_ble_eq_true rfl⟩ dX12_init_48 (pc' := 50) rfl (fun h34 e35 o36 => ?_)
  have hN36 : h34 (m + 4) = some (cI D 4 (fun _ => 0)) := e35
  have hO : h34 (m) = some (.inr (12, [.int (0), .int (0), .ref (m + 1), .int (0), .int (0), .int (0), .int (0), .ref (m + 2), .int (0), .ref (m + 3), .null, .null, .null, .int (0), .null, .null, .int (0), .null, .long (0), .int (0), .int (0), .null, .null, .int (0), .int (0), .int (0), .int (0), .int (0), .int (0), .int (0), .int (0), .null, .null, .null, .null, .long (0)])) := (o36 _ (by omega)).trans hO
  have hF : ∀ q, (q < m) → h34 q = h q := fun q hq => (o36 q (by omega)).trans (hF q hq)
  have hN3 : h34 (m + 1) = some (cI D 9 (fun _ => 0)) := (o36 _ (by omega)).trans hN3
  have hN9 : h34 (m + 2) = some (cI D 5 (upd (upd (upd (upd (upd (fun _ => 0) (0) ((-1))) (1) ((-1))) (2) ((-1))) (3) ((-1))) (4) ((-1)))) := (o36 _ (by omega)).trans hN9
  have hN30 : h34 (m + 3) = some (cI D 4 (fun _ => 0)) := (o36 _ (by omega)).trans hN30
  show qG X 4 22 (m + 5) h34 50 [(0, .ref (m))] [.ref (m + 4), .ref (m)]
  refine pf_12_19 C hin (hO) (v := .ref (m + 4)) rfl rfl (Nat.le_of_ble_eq_true rfl) dX12_init_50 (pc' := 53) rfl (fun h37 e38 o39 => ?_)
  have hO : h37 (m) = some (.inr (12, [.int (0), .int (0), .ref (m + 1), .int (0), .int (0), .int (0), .int (0), .ref (m + 2), .int (0), .ref (m + 3), .ref (m + 4), .null, .null, .int (0), .null, .null, .int (0), .null, .long (0), .int (0), .int (0), .null, .null, .int (0), .int (0), .int (0), .int (0), .int (0), .int (0), .int (0), .int (0), .null, .null, .null, .null, .long (0)])) := e38
  have hF : ∀ q, (q < m) → h37 q = h q := fun q hq => (o39 q (by omega)).trans (hF q hq)
  have hN3 : h37 (m + 1) = some (cI D 9 (fun _ => 0)) := (o39 _ (by omega)).trans hN3
  have hN9 : h37 (m + 2) = some (cI D 5 (upd (upd (upd (upd (upd (fun _ => 0) (0) ((-1))) (1) ((-1))) (2) ((-1))) (3) ((-1))) (4) ((-1)))) := (o39 _ (by omega)).trans hN9
  have hN30 : h37 (m + 3) = some (cI D 4 (fun _ => 0)) := (o39 _ (by omega)).trans hN30
  have hN36 : h37 (m + 4) = some (cI D 4 (fun _ => 0)) := (o39 _ (by omega)).trans hN36
  refine g_aload_n C 0 dX12_init_53 rfl rfl rfl ?_
  refine g_iconst C (v := 4) dX12_init_54 (by decide) rfl ?_
  refine g_newI C (N := 4) rfl (by decide) (AW_m 85 (by decide +kernel) rfl) ⟨Nat.le_of_ble_eq_true rfl, Nat.le_of_ble_eq_true rfl⟩ dX12_init_55 (pc' := 57) rfl (fun h40 e41 o42 => ?_)
  have hN42 : h40 (m + 5) = some (cI D 4 (fun _ => 0)) := e41
  have hO : h40 (m) = some (.inr (12, [.int (0), .int (0), .ref (m + 1), .int (0), .int (0), .int (0), .int (0), .ref (m + 2), .int (0), .ref (m + 3), .ref (m + 4), .null, .null, .int (0), .null, .null, .int (0), .null, .long (0), .int (0), .int (0), .null, .null, .int (0), .int (0), .int (0), .int (0), .int (0), .int (0), .int (0), .int (0), .null, .null, .null, .null, .long (0)])) := (o42 _ (by omega)).trans hO
  have hF : ∀ q, (q < m) → h40 q = h q := fun q hq => (o42 q (by omega)).trans (hF q hq)
  have hN3 : h40 (m + 1) = some (cI D 9 (fun _ => 0)) := (o42 _ (by omega)).trans hN3
  have hN9 : h40 (m + 2) = some (cI D 5 (upd (upd (upd (upd (upd (fun _ => 0) (0) ((-1))) (1) ((-1))) (2) ((-1))) (3) ((-1))) (4) ((-1)))) := (o42 _ (by omega)).trans hN9
  have hN30 : h40 (m + 3) = some (cI D 4 (fun _ => 0)) := (o42 _ (by omega)).trans hN30
  have hN36 : h40 (m + 4) = some (cI D 4 (fun _ => 0)) := (o42 _ (by omega)).trans hN36
  show qG X 5 26 (m + 6) h40 57 [(0, .ref (m))] [.ref (m + 5), .ref (m)]
  refine pf_12_22 C hin (hO) (v := .ref (m + 5)) rfl rfl (Nat.le_of_ble_eq_true rfl) dX12_init_57 (pc' := 60) rfl (fun h43 e44 o45 => ?_)
  have hO : h43 (m) = some (.inr (12, [.int (0), .int (0), .ref (m + 1), .int (0), .int (0), .int (0), .int (0), .ref (m + 2), .int (0), .ref (m + 3), .ref (m + 4), .ref (m + 5), .null, .int (0), .null, .null, .int (0), .null, .long (0), .int (0), .int (0), .null, .null, .int (0), .int (0), .int (0), .int (0), .int (0), .int (0), .int (0), .int (0), .null, .null, .null, .null, .long (0)])) := e44
  have hF : ∀ q, (q < m) → h43 q = h q := fun q hq => (o45 q (by omega)).trans (hF q hq)
  have hN3 : h43 (m + 1) = some (cI D 9 (fun _ => 0)) := (o45 _ (by omega)).trans hN3
  have hN9 : h43 (m + 2) = some (cI D 5 (upd (upd (upd (upd (upd (fun _ => 0) (0) ((-1))) (1) ((-1))) (2) ((-1))) (3) ((-1))) (4) ((-1)))) := (o45 _ (by omega)).trans hN9
  have hN30 : h43 (m + 3) = some (cI D 4 (fun _ => 0)) := (o45 _ (by omega)).trans hN30
  have hN36 : h43 (m + 4) = some (cI D 4 (fun _ => 0)) := (o45 _ (by omega)).trans hN36
  have hN42 : h43 (m + 5) = some (cI D 4 (fun _ => 0)) := (o45 _ (by omega)).trans hN42
  refine g_aload_n C 0 dX12_init_60 rfl rfl rfl ?_
  refine g_iconst C (v := 4) dX12_init_61 (by decide) rfl ?_
  refine g_newI C (N := 4) rfl (by decide) (AW_m 85 (by decide +kernel) rfl) ⟨Nat.le_of_ble_eq_true rfl, Nat.le_of_ble_eq_true rfl⟩ dX12_init_62 (pc' := 64) rfl (fun h46 e47 o48 => ?_)
  have hN48 : h46 (m + 6) = some (cI D 4 (fun _ => 0)) := e47
  have hO : h46 (m) = some (.inr (12, [.int (0), .int (0), .ref (m + 1), .int (0), .int (0), .int (0), .int (0), .ref (m + 2), .int (0), .ref (m + 3), .ref (m + 4), .ref (m + 5), .null, .int (0), .null, .null, .int (0), .null, .long (0), .int (0), .int (0), .null, .null, .int (0), .int (0), .int (0), .int (0), .int (0), .int (0), .int (0), .int (0), .null, .null, .null, .null, .long (0)])) := (o48 _ (by omega)).trans hO
  have hF : ∀ q, (q < m) → h46 q = h q := fun q hq => (o48 q (by omega)).trans (hF q hq)
  have hN3 : h46 (m + 1) = some (cI D 9 (fun _ => 0)) := (o48 _ (by omega)).trans hN3
  have hN9 : h46 (m + 2) = some (cI D 5 (upd (upd (upd (upd (upd (fun _ => 0) (0) ((-1))) (1) ((-1))) (2) ((-1))) (3) ((-1))) (4) ((-1)))) := (o48 _ (by omega)).trans hN9
  have hN30 : h46 (m + 3) = some (cI D 4 (fun _ => 0)) := (o48 _ (by omega)).trans hN30
  have hN36 : h46 (m + 4) = some (cI D 4 (fun _ => 0)) := (o48 _ (by omega)).trans hN36
  have hN42 : h46 (m + 5) = some (cI D 4 (fun _ => 0)) := (o48 _ (by omega)).trans hN42
  show qG X 6 30 (m + 7) h46 64 [(0, .ref (m))] [.ref (m + 6), .ref (m)]
  refine pf_12_25 C hin (hO) (v := .ref (m + 6)) rfl rfl (Nat.le_of_ble_eq_true rfl) dX12_init_64 (pc' := 67) rfl (fun h49 e50 o51 => ?_)
  have hO : h49 (m) = some (.inr (12, [.int (0), .int (0), .ref (m + 1), .int (0), .int (0), .int (0), .int (0), .ref (m + 2), .int (0), .ref (m + 3), .ref (m + 4), .ref (m + 5), .ref (m + 6), .int (0), .null, .null, .int (0), .null, .long (0), .int (0), .int (0), .null, .null, .int (0), .int (0), .int (0), .int (0), .int (0), .int (0), .int (0), .int (0), .null, .null, .null, .null, .long (0)])) := e50
  have hF : ∀ q, (q < m) → h49 q = h q := fun q hq => (o51 q (by omega)).trans (hF q hq)
  have hN3 : h49 (m + 1) = some (cI D 9 (fun _ => 0)) := (o51 _ (by omega)).trans hN3
  have hN9 : h49 (m + 2) = some (cI D 5 (upd (upd (upd (upd (upd (fun _ => 0) (0) ((-1))) (1) ((-1))) (2) ((-1))) (3) ((-1))) (4) ((-1)))) := (o51 _ (by omega)).trans hN9
  have hN30 : h49 (m + 3) = some (cI D 4 (fun _ => 0)) := (o51 _ (by omega)).trans hN30
  have hN36 : h49 (m + 4) = some (cI D 4 (fun _ => 0)) := (o51 _ (by omega)).trans hN36
  have hN42 : h49 (m + 5) = some (cI D 4 (fun _ => 0)) := (o51 _ (by omega)).trans hN42
  have hN48 : h49 (m + 6) = some (cI D 4 (fun _ => 0)) := (o51 _ (by omega)).trans hN48
  refine g_aload_n C 0 dX12_init_67 rfl rfl rfl ?_
  refine g_bipush C (v := 12) dX12_init_68 (by decide) rfl ?_
  refine g_newI C (N := 12) rfl (by decide) (AW_m 85 (by decide +kernel) rfl) ⟨Nat.le_of_ble_eq_true rfl, Nat.le_of_ble_eq_true rfl⟩ dX12_init_70 (pc' := 72) rfl (fun h52 e53 o54 => ?_)
  have hN54 : h52 (m + 7) = some (cI D 12 (fun _ => 0)) := e53
  have hO : h52 (m) = some (.inr (12, [.int (0), .int (0), .ref (m + 1), .int (0), .int (0), .int (0), .int (0), .ref (m + 2), .int (0), .ref (m + 3), .ref (m + 4), .ref (m + 5), .ref (m + 6), .int (0), .null, .null, .int (0), .null, .long (0), .int (0), .int (0), .null, .null, .int (0), .int (0), .int (0), .int (0), .int (0), .int (0), .int (0), .int (0), .null, .null, .null, .null, .long (0)])) := (o54 _ (by omega)).trans hO
  have hF : ∀ q, (q < m) → h52 q = h q := fun q hq => (o54 q (by omega)).trans (hF q hq)
  have hN3 : h52 (m + 1) = some (cI D 9 (fun _ => 0)) := (o54 _ (by omega)).trans hN3
  have hN9 : h52 (m + 2) = some (cI D 5 (upd (upd (upd (upd (upd (fun _ => 0) (0) ((-1))) (1) ((-1))) (2) ((-1))) (3) ((-1))) (4) ((-1)))) := (o54 _ (by omega)).trans hN9
  have hN30 : h52 (m + 3) = some (cI D 4 (fun _ => 0)) := (o54 _ (by omega)).trans hN30
  have hN36 : h52 (m + 4) = some (cI D 4 (fun _ => 0)) := (o54 _ (by omega)).trans hN36
  have hN42 : h52 (m + 5) = some (cI D 4 (fun _ => 0)) := (o54 _ (by omega)).trans hN42
  have hN48 : h52 (m + 6) = some (cI D 4 (fun _ => 0)) := (o54 _ (by omega)).trans hN48
  show qG X 7 42 (m + 8) h52 72 [(0, .ref (m))] [.ref (m + 7), .ref (m)]
  refine pf_12_28 C hin (hO) (v := .ref (m + 7)) rfl rfl (Nat.le_of_ble_eq_true rfl) dX12_init_72 (pc' := 75) rfl (fun h55 e56 o57 => ?_)
  have hO : h55 (m) = some (.inr (12, [.int (0), .int (0), .ref (m + 1), .int (0), .int (0), .int (0), .int (0), .ref (m + 2), .int (0), .ref (m + 3), .ref (m + 4), .ref (m + 5), .ref (m + 6), .int (0), .ref (m + 7), .null, .int (0), .null, .long (0), .int (0), .int (0), .null, .null, .int (0), .int (0), .int (0), .int (0), .int (0), .int (0), .int (0), .int (0), .null, .null, .null, .null, .long (0)])) := e56
  have hF : ∀ q, (q < m) → h55 q = h q := fun q hq => (o57 q (by omega)).trans (hF q hq)
  have hN3 : h55 (m + 1) = some (cI D 9 (fun _ => 0)) := (o57 _ (by omega)).trans hN3
  have hN9 : h55 (m + 2) = some (cI D 5 (upd (upd (upd (upd (upd (fun _ => 0) (0) ((-1))) (1) ((-1))) (2) ((-1))) (3) ((-1))) (4) ((-1)))) := (o57 _ (by omega)).trans hN9
  have hN30 : h55 (m + 3) = some (cI D 4 (fun _ => 0)) := (o57 _ (by omega)).trans hN30
  have hN36 : h55 (m + 4) = some (cI D 4 (fun _ => 0)) := (o57 _ (by omega)).trans hN36
  have hN42 : h55 (m + 5) = some (cI D 4 (fun _ => 0)) := (o57 _ (by omega)).trans hN42
  have hN48 : h55 (m + 6) = some (cI D 4 (fun _ => 0)) := (o57 _ (by omega)).trans hN48
  have hN54 : h55 (m + 7) = some (cI D 12 (fun _ => 0)) := (o57 _ (by omega)).trans hN54
  refine g_aload_n C 0 dX12_init_75 rfl rfl rfl ?_
  refine g_bipush C (v := 12) dX12_init_76 (by decide) rfl ?_
  refine g_newI C (N := 12) rfl (by decide) (AW_m 85 (by decide +kernel) rfl) ⟨Nat.le_of_ble_eq_true rfl, Nat.le_of_ble_eq_true rfl⟩ dX12_init_78 (pc' := 80) rfl (fun h58 e59 o60 => ?_)
  have hN60 : h58 (m + 8) = some (cI D 12 (fun _ => 0)) := e59
  have hO : h58 (m) = some (.inr (12, [.int (0), .int (0), .ref (m + 1), .int (0), .int (0), .int (0), .int (0), .ref (m + 2), .int (0), .ref (m + 3), .ref (m + 4), .ref (m + 5), .ref (m + 6), .int (0), .ref (m + 7), .null, .int (0), .null, .long (0), .int (0), .int (0), .null, .null, .int (0), .int (0), .int (0), .int (0), .int (0), .int (0), .int (0), .int (0), .null, .null, .null, .null, .long (0)])) := (o60 _ (by omega)).trans hO
  have hF : ∀ q, (q < m) → h58 q = h q := fun q hq => (o60 q (by omega)).trans (hF q hq)
  have hN3 : h58 (m + 1) = some (cI D 9 (fun _ => 0)) := (o60 _ (by omega)).trans hN3
  have hN9 : h58 (m + 2) = some (cI D 5 (upd (upd (upd (upd (upd (fun _ => 0) (0) ((-1))) (1) ((-1))) (2) ((-1))) (3) ((-1))) (4) ((-1)))) := (o60 _ (by omega)).trans hN9
  have hN30 : h58 (m + 3) = some (cI D 4 (fun _ => 0)) := (o60 _ (by omega)).trans hN30
  have hN36 : h58 (m + 4) = some (cI D 4 (fun _ => 0)) := (o60 _ (by omega)).trans hN36
  have hN42 : h58 (m + 5) = some (cI D 4 (fun _ => 0)) := (o60 _ (by omega)).trans hN42
  have hN48 : h58 (m + 6) = some (cI D 4 (fun _ => 0)) := (o60 _ (by omega)).trans hN48
  have hN54 : h58 (m + 7) = some (cI D 12 (fun _ => 0)) := (o60 _ (by omega)).trans hN54
  show qG X 8 54 (m + 9) h58 80 [(0, .ref (m))] [.ref (m + 8), .ref (m)]
  refine pf_12_31 C hin (hO) (v := .ref (m + 8)) rfl rfl (Nat.le_of_ble_eq_true rfl) dX12_init_80 (pc' := 83) rfl (fun h61 e62 o63 => ?_)
  have hO : h61 (m) = some (.inr (12, [.int (0), .int (0), .ref (m + 1), .int (0), .int (0), .int (0), .int (0), .ref (m + 2), .int (0), .ref (m + 3), .ref (m + 4), .ref (m + 5), .ref (m + 6), .int (0), .ref (m + 7), .ref (m + 8), .int (0), .null, .long (0), .int (0), .int (0), .null, .null, .int (0), .int (0), .int (0), .int (0), .int (0), .int (0), .int (0), .int (0), .null, .null, .null, .null, .long (0)])) := e62
  have hF : ∀ q, (q < m) → h61 q = h q := fun q hq => (o63 q (by omega)).trans (hF q hq)
  have hN3 : h61 (m + 1) = some (cI D 9 (fun _ => 0)) := (o63 _ (by omega)).trans hN3
  have hN9 : h61 (m + 2) = some (cI D 5 (upd (upd (upd (upd (upd (fun _ => 0) (0) ((-1))) (1) ((-1))) (2) ((-1))) (3) ((-1))) (4) ((-1)))) := (o63 _ (by omega)).trans hN9
  have hN30 : h61 (m + 3) = some (cI D 4 (fun _ => 0)) := (o63 _ (by omega)).trans hN30
  have hN36 : h61 (m + 4) = some (cI D 4 (fun _ => 0)) := (o63 _ (by omega)).trans hN36
  have hN42 : h61 (m + 5) = some (cI D 4 (fun _ => 0)) := (o63 _ (by omega)).trans hN42
  have hN48 : h61 (m + 6) = some (cI D 4 (fun _ => 0)) := (o63 _ (by omega)).trans hN48
  have hN54 : h61 (m + 7) = some (cI D 12 (fun _ => 0)) := (o63 _ (by omega)).trans hN54
  have hN60 : h61 (m + 8) = some (cI D 12 (fun _ => 0)) := (o63 _ (by omega)).trans hN60
  refine g_aload_n C 0 dX12_init_83 rfl rfl rfl ?_
  refine g_bipush C (v := 16) dX12_init_84 (by decide) rfl ?_
  refine g_newB C (N := 16) rfl (by decide) (AW_m 806 (by decide +kernel) rfl) ⟨Nat.le_of_ble_eq_true rfl, Nat.le_of_ble_eq_true rfl⟩ dX12_init_86 (pc' := 88) rfl (fun h64 e65 o66 => ?_)
  have hN66 : h64 (m + 9) = some (cB D 16 (fun _ => 0)) := e65
  have hO : h64 (m) = some (.inr (12, [.int (0), .int (0), .ref (m + 1), .int (0), .int (0), .int (0), .int (0), .ref (m + 2), .int (0), .ref (m + 3), .ref (m + 4), .ref (m + 5), .ref (m + 6), .int (0), .ref (m + 7), .ref (m + 8), .int (0), .null, .long (0), .int (0), .int (0), .null, .null, .int (0), .int (0), .int (0), .int (0), .int (0), .int (0), .int (0), .int (0), .null, .null, .null, .null, .long (0)])) := (o66 _ (by omega)).trans hO
  have hF : ∀ q, (q < m) → h64 q = h q := fun q hq => (o66 q (by omega)).trans (hF q hq)
  have hN3 : h64 (m + 1) = some (cI D 9 (fun _ => 0)) := (o66 _ (by omega)).trans hN3
  have hN9 : h64 (m + 2) = some (cI D 5 (upd (upd (upd (upd (upd (fun _ => 0) (0) ((-1))) (1) ((-1))) (2) ((-1))) (3) ((-1))) (4) ((-1)))) := (o66 _ (by omega)).trans hN9
  have hN30 : h64 (m + 3) = some (cI D 4 (fun _ => 0)) := (o66 _ (by omega)).trans hN30
  have hN36 : h64 (m + 4) = some (cI D 4 (fun _ => 0)) := (o66 _ (by omega)).trans hN36
  have hN42 : h64 (m + 5) = some (cI D 4 (fun _ => 0)) := (o66 _ (by omega)).trans hN42
  have hN48 : h64 (m + 6) = some (cI D 4 (fun _ => 0)) := (o66 _ (by omega)).trans hN48
  have hN54 : h64 (m + 7) = some (cI D 12 (fun _ => 0)) := (o66 _ (by omega)).trans hN54
  have hN60 : h64 (m + 8) = some (cI D 12 (fun _ => 0)) := (o66 _ (by omega)).trans hN60
  show qG X 9 70 (m + 10) h64 88 [(0, .ref (m))] [.ref (m + 9), .ref (m)]
  refine pf_12_34 C hin (hO) (v := .ref (m + 9)) rfl rfl (Nat.le_of_ble_eq_true rfl) dX12_init_88 (pc' := 91) rfl (fun h67 e68 o69 => ?_)
  have hO : h67 (m) = some (.inr (12, [.int (0), .int (0), .ref (m + 1), .int (0), .int (0), .int (0), .int (0), .ref (m + 2), .int (0), .ref (m + 3), .ref (m + 4), .ref (m + 5), .ref (m + 6), .int (0), .ref (m + 7), .ref (m + 8), .int (0), .ref (m + 9), .long (0), .int (0), .int (0), .null, .null, .int (0), .int (0), .int (0), .int (0), .int (0), .int (0), .int (0), .int (0), .null, .null, .null, .null, .long (0)])) := e68
  have hF : ∀ q, (q < m) → h67 q = h q := fun q hq => (o69 q (by omega)).trans (hF q hq)
  have hN3 : h67 (m + 1) = some (cI D 9 (fun _ => 0)) := (o69 _ (by omega)).trans hN3
  have hN9 : h67 (m + 2) = some (cI D 5 (upd (upd (upd (upd (upd (fun _ => 0) (0) ((-1))) (1) ((-1))) (2) ((-1))) (3) ((-1))) (4) ((-1)))) := (o69 _ (by omega)).trans hN9
  have hN30 : h67 (m + 3) = some (cI D 4 (fun _ => 0)) := (o69 _ (by omega)).trans hN30
  have hN36 : h67 (m + 4) = some (cI D 4 (fun _ => 0)) := (o69 _ (by omega)).trans hN36
  have hN42 : h67 (m + 5) = some (cI D 4 (fun _ => 0)) := (o69 _ (by omega)).trans hN42
  have hN48 : h67 (m + 6) = some (cI D 4 (fun _ => 0)) := (o69 _ (by omega)).trans hN48
  have hN54 : h67 (m + 7) = some (cI D 12 (fun _ => 0)) := (o69 _ (by omega)).trans hN54
  have hN60 : h67 (m + 8) = some (cI D 12 (fun _ => 0)) := (o69 _ (by omega)).trans hN60
  have hN66 : h67 (m + 9) = some (cB D 16 (fun _ => 0)) := (o69 _ (by omega)).trans hN66
  refine g_aload_n C 0 dX12_init_91 rfl rfl rfl ?_
  refine g_iconst C (v := 5) dX12_init_92 (by decide) rfl ?_
  refine g_newI C (N := 5) rfl (by decide) (AW_m 85 (by decide +kernel) rfl) ⟨Nat.le_of_ble_eq_true rfl, Nat.le_of_ble_eq_true rfl⟩ dX12_init_93 (pc' := 95) rfl (fun h70 e71 o72 => ?_)
  have hN72 : h70 (m + 10) = some (cI D 5 (fun _ => 0)) := e71
  have hO : h70 (m) = some (.inr (12, [.int (0), .int (0), .ref (m + 1), .int (0), .int (0), .int (0), .int (0), .ref (m + 2), .int (0), .ref (m + 3), .ref (m + 4), .ref (m + 5), .ref (m + 6), .int (0), .ref (m + 7), .ref (m + 8), .int (0), .ref (m + 9), .long (0), .int (0), .int (0), .null, .null, .int (0), .int (0), .int (0), .int (0), .int (0), .int (0), .int (0), .int (0), .null, .null, .null, .null, .long (0)])) := (o72 _ (by omega)).trans hO
  have hF : ∀ q, (q < m) → h70 q = h q := fun q hq => (o72 q (by omega)).trans (hF q hq)
  have hN3 : h70 (m + 1) = some (cI D 9 (fun _ => 0)) := (o72 _ (by omega)).trans hN3
  have hN9 : h70 (m + 2) = some (cI D 5 (upd (upd (upd (upd (upd (fun _ => 0) (0) ((-1))) (1) ((-1))) (2) ((-1))) (3) ((-1))) (4) ((-1)))) := (o72 _ (by omega)).trans hN9
  have hN30 : h70 (m + 3) = some (cI D 4 (fun _ => 0)) := (o72 _ (by omega)).trans hN30
  have hN36 : h70 (m + 4) = some (cI D 4 (fun _ => 0)) := (o72 _ (by omega)).trans hN36
  have hN42 : h70 (m + 5) = some (cI D 4 (fun _ => 0)) := (o72 _ (by omega)).trans hN42
  have hN48 : h70 (m + 6) = some (cI D 4 (fun _ => 0)) := (o72 _ (by omega)).trans hN48
  have hN54 : h70 (m + 7) = some (cI D 12 (fun _ => 0)) := (o72 _ (by omega)).trans hN54
  have hN60 : h70 (m + 8) = some (cI D 12 (fun _ => 0)) := (o72 _ (by omega)).trans hN60
  have hN66 : h70 (m + 9) = some (cB D 16 (fun _ => 0)) := (o72 _ (by omega)).trans hN66
  show qG X 10 75 (m + 11) h70 95 [(0, .ref (m))] [.ref (m + 10), .ref (m)]
  refine pf_12_38 C hin (hO) (v := .ref (m + 10)) rfl rfl (Nat.le_of_ble_eq_true rfl) dX12_init_95 (pc' := 98) rfl (fun h73 e74 o75 => ?_)
  have hO : h73 (m) = some (.inr (12, [.int (0), .int (0), .ref (m + 1), .int (0), .int (0), .int (0), .int (0), .ref (m + 2), .int (0), .ref (m + 3), .ref (m + 4), .ref (m + 5), .ref (m + 6), .int (0), .ref (m + 7), .ref (m + 8), .int (0), .ref (m + 9), .long (0), .int (0), .int (0), .ref (m + 10), .null, .int (0), .int (0), .int (0), .int (0), .int (0), .int (0), .int (0), .int (0), .null, .null, .null, .null, .long (0)])) := e74
  have hF : ∀ q, (q < m) → h73 q = h q := fun q hq => (o75 q (by omega)).trans (hF q hq)
  have hN3 : h73 (m + 1) = some (cI D 9 (fun _ => 0)) := (o75 _ (by omega)).trans hN3
  have hN9 : h73 (m + 2) = some (cI D 5 (upd (upd (upd (upd (upd (fun _ => 0) (0) ((-1))) (1) ((-1))) (2) ((-1))) (3) ((-1))) (4) ((-1)))) := (o75 _ (by omega)).trans hN9
  have hN30 : h73 (m + 3) = some (cI D 4 (fun _ => 0)) := (o75 _ (by omega)).trans hN30
  have hN36 : h73 (m + 4) = some (cI D 4 (fun _ => 0)) := (o75 _ (by omega)).trans hN36
  have hN42 : h73 (m + 5) = some (cI D 4 (fun _ => 0)) := (o75 _ (by omega)).trans hN42
  have hN48 : h73 (m + 6) = some (cI D 4 (fun _ => 0)) := (o75 _ (by omega)).trans hN48
  have hN54 : h73 (m + 7) = some (cI D 12 (fun _ => 0)) := (o75 _ (by omega)).trans hN54
  have hN60 : h73 (m + 8) = some (cI D 12 (fun _ => 0)) := (o75 _ (by omega)).trans hN60
  have hN66 : h73 (m + 9) = some (cB D 16 (fun _ => 0)) := (o75 _ (by omega)).trans hN66
  have hN72 : h73 (m + 10) = some (cI D 5 (fun _ => 0)) := (o75 _ (by omega)).trans hN72
  refine g_aload_n C 0 dX12_init_98 rfl rfl rfl ?_
  refine g_iconst C (v := 5) dX12_init_99 (by decide) rfl ?_
  refine g_newI C (N := 5) rfl (by decide) (AW_m 85 (by decide +kernel) rfl) ⟨Nat.le_of_ble_eq_true rfl, Nat.le_of_ble_eq_true rfl⟩ dX12_init_100 (pc' := 102) rfl (fun h76 e77 o78 => ?_)
  have hN78 : h76 (m + 11) = some (cI D 5 (fun _ => 0)) := e77
  have hO : h76 (m) = some (.inr (12, [.int (0), .int (0), .ref (m + 1), .int (0), .int (0), .int (0), .int (0), .ref (m + 2), .int (0), .ref (m + 3), .ref (m + 4), .ref (m + 5), .ref (m + 6), .int (0), .ref (m + 7), .ref (m + 8), .int (0), .ref (m + 9), .long (0), .int (0), .int (0), .ref (m + 10), .null, .int (0), .int (0), .int (0), .int (0), .int (0), .int (0), .int (0), .int (0), .null, .null, .null, .null, .long (0)])) := (o78 _ (by omega)).trans hO
  have hF : ∀ q, (q < m) → h76 q = h q := fun q hq => (o78 q (by omega)).trans (hF q hq)
  have hN3 : h76 (m + 1) = some (cI D 9 (fun _ => 0)) := (o78 _ (by omega)).trans hN3
  have hN9 : h76 (m + 2) = some (cI D 5 (upd (upd (upd (upd (upd (fun _ => 0) (0) ((-1))) (1) ((-1))) (2) ((-1))) (3) ((-1))) (4) ((-1)))) := (o78 _ (by omega)).trans hN9
  have hN30 : h76 (m + 3) = some (cI D 4 (fun _ => 0)) := (o78 _ (by omega)).trans hN30
  have hN36 : h76 (m + 4) = some (cI D 4 (fun _ => 0)) := (o78 _ (by omega)).trans hN36
  have hN42 : h76 (m + 5) = some (cI D 4 (fun _ => 0)) := (o78 _ (by omega)).trans hN42
  have hN48 : h76 (m + 6) = some (cI D 4 (fun _ => 0)) := (o78 _ (by omega)).trans hN48
  have hN54 : h76 (m + 7) = some (cI D 12 (fun _ => 0)) := (o78 _ (by omega)).trans hN54
  have hN60 : h76 (m + 8) = some (cI D 12 (fun _ => 0)) := (o78 _ (by omega)).trans hN60
  have hN66 : h76 (m + 9) = some (cB D 16 (fun _ => 0)) := (o78 _ (by omega)).trans hN66
  have hN72 : h76 (m + 10) = some (cI D 5 (fun _ => 0)) := (o78 _ (by omega)).trans hN72
  show qG X 11 80 (m + 12) h76 102 [(0, .ref (m))] [.ref (m + 11), .ref (m)]
  refine pf_12_41 C hin (hO) (v := .ref (m + 11)) rfl rfl (Nat.le_of_ble_eq_true rfl) dX12_init_102 (pc' := 105) rfl (fun h79 e80 o81 => ?_)
  have hO : h79 (m) = some (.inr (12, [.int (0), .int (0), .ref (m + 1), .int (0), .int (0), .int (0), .int (0), .ref (m + 2), .int (0), .ref (m + 3), .ref (m + 4), .ref (m + 5), .ref (m + 6), .int (0), .ref (m + 7), .ref (m + 8), .int (0), .ref (m + 9), .long (0), .int (0), .int (0), .ref (m + 10), .ref (m + 11), .int (0), .int (0), .int (0), .int (0), .int (0), .int (0), .int (0), .int (0), .null, .null, .null, .null, .long (0)])) := e80
  have hF : ∀ q, (q < m) → h79 q = h q := fun q hq => (o81 q (by omega)).trans (hF q hq)
  have hN3 : h79 (m + 1) = some (cI D 9 (fun _ => 0)) := (o81 _ (by omega)).trans hN3
  have hN9 : h79 (m + 2) = some (cI D 5 (upd (upd (upd (upd (upd (fun _ => 0) (0) ((-1))) (1) ((-1))) (2) ((-1))) (3) ((-1))) (4) ((-1)))) := (o81 _ (by omega)).trans hN9
  have hN30 : h79 (m + 3) = some (cI D 4 (fun _ => 0)) := (o81 _ (by omega)).trans hN30
  have hN36 : h79 (m + 4) = some (cI D 4 (fun _ => 0)) := (o81 _ (by omega)).trans hN36
  have hN42 : h79 (m + 5) = some (cI D 4 (fun _ => 0)) := (o81 _ (by omega)).trans hN42
  have hN48 : h79 (m + 6) = some (cI D 4 (fun _ => 0)) := (o81 _ (by omega)).trans hN48
  have hN54 : h79 (m + 7) = some (cI D 12 (fun _ => 0)) := (o81 _ (by omega)).trans hN54
  have hN60 : h79 (m + 8) = some (cI D 12 (fun _ => 0)) := (o81 _ (by omega)).trans hN60
  have hN66 : h79 (m + 9) = some (cB D 16 (fun _ => 0)) := (o81 _ (by omega)).trans hN66
  have hN72 : h79 (m + 10) = some (cI D 5 (fun _ => 0)) := (o81 _ (by omega)).trans hN72
  have hN78 : h79 (m + 11) = some (cI D 5 (fun _ => 0)) := (o81 _ (by omega)).trans hN78
  refine g_aload_n C 0 dX12_init_105 rfl rfl rfl ?_
  refine g_iconst C (v := 5) dX12_init_106 (by decide) rfl ?_
  refine g_newI C (N := 5) rfl (by decide) (AW_m 85 (by decide +kernel) rfl) ⟨Nat.le_of_ble_eq_true rfl, Nat.le_of_ble_eq_true rfl⟩ dX12_init_107 (pc' := 109) rfl (fun h82 e83 o84 => ?_)
  have hN84 : h82 (m + 12) = some (cI D 5 (fun _ => 0)) := e83
  have hO : h82 (m) = some (.inr (12, [.int (0), .int (0), .ref (m + 1), .int (0), .int (0), .int (0), .int (0), .ref (m + 2), .int (0), .ref (m + 3), .ref (m + 4), .ref (m + 5), .ref (m + 6), .int (0), .ref (m + 7), .ref (m + 8), .int (0), .ref (m + 9), .long (0), .int (0), .int (0), .ref (m + 10), .ref (m + 11), .int (0), .int (0), .int (0), .int (0), .int (0), .int (0), .int (0), .int (0), .null, .null, .null, .null, .long (0)])) := (o84 _ (by omega)).trans hO
  have hF : ∀ q, (q < m) → h82 q = h q := fun q hq => (o84 q (by omega)).trans (hF q hq)
  have hN3 : h82 (m + 1) = some (cI D 9 (fun _ => 0)) := (o84 _ (by omega)).trans hN3
  have hN9 : h82 (m + 2) = some (cI D 5 (upd (upd (upd (upd (upd (fun _ => 0) (0) ((-1))) (1) ((-1))) (2) ((-1))) (3) ((-1))) (4) ((-1)))) := (o84 _ (by omega)).trans hN9
  have hN30 : h82 (m + 3) = some (cI D 4 (fun _ => 0)) := (o84 _ (by omega)).trans hN30
  have hN36 : h82 (m + 4) = some (cI D 4 (fun _ => 0)) := (o84 _ (by omega)).trans hN36
  have hN42 : h82 (m + 5) = some (cI D 4 (fun _ => 0)) := (o84 _ (by omega)).trans hN42
  have hN48 : h82 (m + 6) = some (cI D 4 (fun _ => 0)) := (o84 _ (by omega)).trans hN48
  have hN54 : h82 (m + 7) = some (cI D 12 (fun _ => 0)) := (o84 _ (by omega)).trans hN54
  have hN60 : h82 (m + 8) = some (cI D 12 (fun _ => 0)) := (o84 _ (by omega)).trans hN60
  have hN66 : h82 (m + 9) = some (cB D 16 (fun _ => 0)) := (o84 _ (by omega)).trans hN66
  have hN72 : h82 (m + 10) = some (cI D 5 (fun _ => 0)) := (o84 _ (by omega)).trans hN72
  have hN78 : h82 (m + 11) = some (cI D 5 (fun _ => 0)) := (o84 _ (by omega)).trans hN78
  show qG X 12 85 (m + 13) h82 109 [(0, .ref (m))] [.ref (m + 12), .ref (m)]
  refine pf_12_44 C hin (hO) (v := .ref (m + 12)) rfl rfl (Nat.le_of_ble_eq_true rfl) dX12_init_109 (pc' := 112) rfl (fun h85 e86 o87 => ?_)
  have hO : h85 (m) = some (.inr (12, [.int (0), .int (0), .ref (m + 1), .int (0), .int (0), .int (0), .int (0), .ref (m + 2), .int (0), .ref (m + 3), .ref (m + 4), .ref (m + 5), .ref (m + 6), .int (0), .ref (m + 7), .ref (m + 8), .int (0), .ref (m + 9), .long (0), .int (0), .int (0), .ref (m + 10), .ref (m + 11), .int (0), .int (0), .int (0), .int (0), .int (0), .int (0), .int (0), .int (0), .ref (m + 12), .null, .null, .null, .long (0)])) := e86
  have hF : ∀ q, (q < m) → h85 q = h q := fun q hq => (o87 q (by omega)).trans (hF q hq)
  have hN3 : h85 (m + 1) = some (cI D 9 (fun _ => 0)) := (o87 _ (by omega)).trans hN3
  have hN9 : h85 (m + 2) = some (cI D 5 (upd (upd (upd (upd (upd (fun _ => 0) (0) ((-1))) (1) ((-1))) (2) ((-1))) (3) ((-1))) (4) ((-1)))) := (o87 _ (by omega)).trans hN9
  have hN30 : h85 (m + 3) = some (cI D 4 (fun _ => 0)) := (o87 _ (by omega)).trans hN30
  have hN36 : h85 (m + 4) = some (cI D 4 (fun _ => 0)) := (o87 _ (by omega)).trans hN36
  have hN42 : h85 (m + 5) = some (cI D 4 (fun _ => 0)) := (o87 _ (by omega)).trans hN42
  have hN48 : h85 (m + 6) = some (cI D 4 (fun _ => 0)) := (o87 _ (by omega)).trans hN48
  have hN54 : h85 (m + 7) = some (cI D 12 (fun _ => 0)) := (o87 _ (by omega)).trans hN54
  have hN60 : h85 (m + 8) = some (cI D 12 (fun _ => 0)) := (o87 _ (by omega)).trans hN60
  have hN66 : h85 (m + 9) = some (cB D 16 (fun _ => 0)) := (o87 _ (by omega)).trans hN66
  have hN72 : h85 (m + 10) = some (cI D 5 (fun _ => 0)) := (o87 _ (by omega)).trans hN72
  have hN78 : h85 (m + 11) = some (cI D 5 (fun _ => 0)) := (o87 _ (by omega)).trans hN78
  have hN84 : h85 (m + 12) = some (cI D 5 (fun _ => 0)) := (o87 _ (by omega)).trans hN84
  refine g_aload_n C 0 dX12_init_112 rfl rfl rfl ?_
  refine g_iconst C (v := 4) dX12_init_113 (by decide) rfl ?_
  refine g_newI C (N := 4) rfl (by decide) (AW_m 85 (by decide +kernel) rfl) ⟨Nat.le_of_ble_eq_true rfl, Nat.le_of_ble_eq_true rfl⟩ dX12_init_114 (pc' := 116) rfl (fun h88 e89 o90 => ?_)
  have hN90 : h88 (m + 13) = some (cI D 4 (fun _ => 0)) := e89
  have hO : h88 (m) = some (.inr (12, [.int (0), .int (0), .ref (m + 1), .int (0), .int (0), .int (0), .int (0), .ref (m + 2), .int (0), .ref (m + 3), .ref (m + 4), .ref (m + 5), .ref (m + 6), .int (0), .ref (m + 7), .ref (m + 8), .int (0), .ref (m + 9), .long (0), .int (0), .int (0), .ref (m + 10), .ref (m + 11), .int (0), .int (0), .int (0), .int (0), .int (0), .int (0), .int (0), .int (0), .ref (m + 12), .null, .null, .null, .long (0)])) := (o90 _ (by omega)).trans hO
  have hF : ∀ q, (q < m) → h88 q = h q := fun q hq => (o90 q (by omega)).trans (hF q hq)
  have hN3 : h88 (m + 1) = some (cI D 9 (fun _ => 0)) := (o90 _ (by omega)).trans hN3
  have hN9 : h88 (m + 2) = some (cI D 5 (upd (upd (upd (upd (upd (fun _ => 0) (0) ((-1))) (1) ((-1))) (2) ((-1))) (3) ((-1))) (4) ((-1)))) := (o90 _ (by omega)).trans hN9
  have hN30 : h88 (m + 3) = some (cI D 4 (fun _ => 0)) := (o90 _ (by omega)).trans hN30
  have hN36 : h88 (m + 4) = some (cI D 4 (fun _ => 0)) := (o90 _ (by omega)).trans hN36
  have hN42 : h88 (m + 5) = some (cI D 4 (fun _ => 0)) := (o90 _ (by omega)).trans hN42
  have hN48 : h88 (m + 6) = some (cI D 4 (fun _ => 0)) := (o90 _ (by omega)).trans hN48
  have hN54 : h88 (m + 7) = some (cI D 12 (fun _ => 0)) := (o90 _ (by omega)).trans hN54
  have hN60 : h88 (m + 8) = some (cI D 12 (fun _ => 0)) := (o90 _ (by omega)).trans hN60
  have hN66 : h88 (m + 9) = some (cB D 16 (fun _ => 0)) := (o90 _ (by omega)).trans hN66
  have hN72 : h88 (m + 10) = some (cI D 5 (fun _ => 0)) := (o90 _ (by omega)).trans hN72
  have hN78 : h88 (m + 11) = some (cI D 5 (fun _ => 0)) := (o90 _ (by omega)).trans hN78
  have hN84 : h88 (m + 12) = some (cI D 5 (fun _ => 0)) := (o90 _ (by omega)).trans hN84
  show qG X 13 89 (m + 14) h88 116 [(0, .ref (m))] [.ref (m + 13), .ref (m)]
  refine pf_12_47 C hin (hO) (v := .ref (m + 13)) rfl rfl (Nat.le_of_ble_eq_true rfl) dX12_init_116 (pc' := 119) rfl (fun h91 e92 o93 => ?_)
  have hO : h91 (m) = some (.inr (12, [.int (0), .int (0), .ref (m + 1), .int (0), .int (0), .int (0), .int (0), .ref (m + 2), .int (0), .ref (m + 3), .ref (m + 4), .ref (m + 5), .ref (m + 6), .int (0), .ref (m + 7), .ref (m + 8), .int (0), .ref (m + 9), .long (0), .int (0), .int (0), .ref (m + 10), .ref (m + 11), .int (0), .int (0), .int (0), .int (0), .int (0), .int (0), .int (0), .int (0), .ref (m + 12), .ref (m + 13), .null, .null, .long (0)])) := e92
  have hF : ∀ q, (q < m) → h91 q = h q := fun q hq => (o93 q (by omega)).trans (hF q hq)
  have hN3 : h91 (m + 1) = some (cI D 9 (fun _ => 0)) := (o93 _ (by omega)).trans hN3
  have hN9 : h91 (m + 2) = some (cI D 5 (upd (upd (upd (upd (upd (fun _ => 0) (0) ((-1))) (1) ((-1))) (2) ((-1))) (3) ((-1))) (4) ((-1)))) := (o93 _ (by omega)).trans hN9
  have hN30 : h91 (m + 3) = some (cI D 4 (fun _ => 0)) := (o93 _ (by omega)).trans hN30
  have hN36 : h91 (m + 4) = some (cI D 4 (fun _ => 0)) := (o93 _ (by omega)).trans hN36
  have hN42 : h91 (m + 5) = some (cI D 4 (fun _ => 0)) := (o93 _ (by omega)).trans hN42
  have hN48 : h91 (m + 6) = some (cI D 4 (fun _ => 0)) := (o93 _ (by omega)).trans hN48
  have hN54 : h91 (m + 7) = some (cI D 12 (fun _ => 0)) := (o93 _ (by omega)).trans hN54
  have hN60 : h91 (m + 8) = some (cI D 12 (fun _ => 0)) := (o93 _ (by omega)).trans hN60
  have hN66 : h91 (m + 9) = some (cB D 16 (fun _ => 0)) := (o93 _ (by omega)).trans hN66
  have hN72 : h91 (m + 10) = some (cI D 5 (fun _ => 0)) := (o93 _ (by omega)).trans hN72
  have hN78 : h91 (m + 11) = some (cI D 5 (fun _ => 0)) := (o93 _ (by omega)).trans hN78
  have hN84 : h91 (m + 12) = some (cI D 5 (fun _ => 0)) := (o93 _ (by omega)).trans hN84
  have hN90 : h91 (m + 13) = some (cI D 4 (fun _ => 0)) := (o93 _ (by omega)).trans hN90
  refine g_aload_n C 0 dX12_init_119 rfl rfl rfl ?_
  refine g_bipush C (v := 12) dX12_init_120 (by decide) rfl ?_
  refine g_newI C (N := 12) rfl (by decide) (AW_m 85 (by decide +kernel) rfl) ⟨Nat.le_of_ble_eq_true rfl, Nat.le_of_ble_eq_true rfl⟩ dX12_init_122 (pc' := 124) rfl (fun h94 e95 o96 => ?_)
  have hN96 : h94 (m + 14) = some (cI D 12 (fun _ => 0)) := e95
  have hO : h94 (m) = some (.inr (12, [.int (0), .int (0), .ref (m + 1), .int (0), .int (0), .int (0), .int (0), .ref (m + 2), .int (0), .ref (m + 3), .ref (m + 4), .ref (m + 5), .ref (m + 6), .int (0), .ref (m + 7), .ref (m + 8), .int (0), .ref (m + 9), .long (0), .int (0), .int (0), .ref (m + 10), .ref (m + 11), .int (0), .int (0), .int (0), .int (0), .int (0), .int (0), .int (0), .int (0), .ref (m + 12), .ref (m + 13), .null, .null, .long (0)])) := (o96 _ (by omega)).trans hO
  have hF : ∀ q, (q < m) → h94 q = h q := fun q hq => (o96 q (by omega)).trans (hF q hq)
  have hN3 : h94 (m + 1) = some (cI D 9 (fun _ => 0)) := (o96 _ (by omega)).trans hN3
  have hN9 : h94 (m + 2) = some (cI D 5 (upd (upd (upd (upd (upd (fun _ => 0) (0) ((-1))) (1) ((-1))) (2) ((-1))) (3) ((-1))) (4) ((-1)))) := (o96 _ (by omega)).trans hN9
  have hN30 : h94 (m + 3) = some (cI D 4 (fun _ => 0)) := (o96 _ (by omega)).trans hN30
  have hN36 : h94 (m + 4) = some (cI D 4 (fun _ => 0)) := (o96 _ (by omega)).trans hN36
  have hN42 : h94 (m + 5) = some (cI D 4 (fun _ => 0)) := (o96 _ (by omega)).trans hN42
  have hN48 : h94 (m + 6) = some (cI D 4 (fun _ => 0)) := (o96 _ (by omega)).trans hN48
  have hN54 : h94 (m + 7) = some (cI D 12 (fun _ => 0)) := (o96 _ (by omega)).trans hN54
  have hN60 : h94 (m + 8) = some (cI D 12 (fun _ => 0)) := (o96 _ (by omega)).trans hN60
  have hN66 : h94 (m + 9) = some (cB D 16 (fun _ => 0)) := (o96 _ (by omega)).trans hN66
  have hN72 : h94 (m + 10) = some (cI D 5 (fun _ => 0)) := (o96 _ (by omega)).trans hN72
  have hN78 : h94 (m + 11) = some (cI D 5 (fun _ => 0)) := (o96 _ (by omega)).trans hN78
  have hN84 : h94 (m + 12) = some (cI D 5 (fun _ => 0)) := (o96 _ (by omega)).trans hN84
  have hN90 : h94 (m + 13) = some (cI D 4 (fun _ => 0)) := (o96 _ (by omega)).trans hN90
  show qG X 14 101 (m + 15) h94 124 [(0, .ref (m))] [.ref (m + 14), .ref (m)]
  refine pf_12_50 C hin (hO) (v := .ref (m + 14)) rfl rfl (Nat.le_of_ble_eq_true rfl) dX12_init_124 (pc' := 127) rfl (fun h97 e98 o99 => ?_)
  have hO : h97 (m) = some (.inr (12, [.int (0), .int (0), .ref (m + 1), .int (0), .int (0), .int (0), .int (0), .ref (m + 2), .int (0), .ref (m + 3), .ref (m + 4), .ref (m + 5), .ref (m + 6), .int (0), .ref (m + 7), .ref (m + 8), .int (0), .ref (m + 9), .long (0), .int (0), .int (0), .ref (m + 10), .ref (m + 11), .int (0), .int (0), .int (0), .int (0), .int (0), .int (0), .int (0), .int (0), .ref (m + 12), .ref (m + 13), .ref (m + 14), .null, .long (0)])) := e98
  have hF : ∀ q, (q < m) → h97 q = h q := fun q hq => (o99 q (by omega)).trans (hF q hq)
  have hN3 : h97 (m + 1) = some (cI D 9 (fun _ => 0)) := (o99 _ (by omega)).trans hN3
  have hN9 : h97 (m + 2) = some (cI D 5 (upd (upd (upd (upd (upd (fun _ => 0) (0) ((-1))) (1) ((-1))) (2) ((-1))) (3) ((-1))) (4) ((-1)))) := (o99 _ (by omega)).trans hN9
  have hN30 : h97 (m + 3) = some (cI D 4 (fun _ => 0)) := (o99 _ (by omega)).trans hN30
  have hN36 : h97 (m + 4) = some (cI D 4 (fun _ => 0)) := (o99 _ (by omega)).trans hN36
  have hN42 : h97 (m + 5) = some (cI D 4 (fun _ => 0)) := (o99 _ (by omega)).trans hN42
  have hN48 : h97 (m + 6) = some (cI D 4 (fun _ => 0)) := (o99 _ (by omega)).trans hN48
  have hN54 : h97 (m + 7) = some (cI D 12 (fun _ => 0)) := (o99 _ (by omega)).trans hN54
  have hN60 : h97 (m + 8) = some (cI D 12 (fun _ => 0)) := (o99 _ (by omega)).trans hN60
  have hN66 : h97 (m + 9) = some (cB D 16 (fun _ => 0)) := (o99 _ (by omega)).trans hN66
  have hN72 : h97 (m + 10) = some (cI D 5 (fun _ => 0)) := (o99 _ (by omega)).trans hN72
  have hN78 : h97 (m + 11) = some (cI D 5 (fun _ => 0)) := (o99 _ (by omega)).trans hN78
  have hN84 : h97 (m + 12) = some (cI D 5 (fun _ => 0)) := (o99 _ (by omega)).trans hN84
  have hN90 : h97 (m + 13) = some (cI D 4 (fun _ => 0)) := (o99 _ (by omega)).trans hN90
  have hN96 : h97 (m + 14) = some (cI D 12 (fun _ => 0)) := (o99 _ (by omega)).trans hN96
  refine g_aload_n C 0 dX12_init_127 rfl rfl rfl ?_
  refine g_bipush C (v := 12) dX12_init_128 (by decide) rfl ?_
  refine g_newI C (N := 12) rfl (by decide) (AW_m 85 (by decide +kernel) rfl) ⟨Nat.le_of_ble_eq_true rfl, Nat.le_of_ble_eq_true rfl⟩ dX12_init_130 (pc' := 132) rfl (fun h100 e101 o102 => ?_)
  have hN102 : h100 (m + 15) = some (cI D 12 (fun _ => 0)) := e101
  have hO : h100 (m) = some (.inr (12, [.int (0), .int (0), .ref (m + 1), .int (0), .int (0), .int (0), .int (0), .ref (m + 2), .int (0), .ref (m + 3), .ref (m + 4), .ref (m + 5), .ref (m + 6), .int (0), .ref (m + 7), .ref (m + 8), .int (0), .ref (m + 9), .long (0), .int (0), .int (0), .ref (m + 10), .ref (m + 11), .int (0), .int (0), .int (0), .int (0), .int (0), .int (0), .int (0), .int (0), .ref (m + 12), .ref (m + 13), .ref (m + 14), .null, .long (0)])) := (o102 _ (by omega)).trans hO
  have hF : ∀ q, (q < m) → h100 q = h q := fun q hq => (o102 q (by omega)).trans (hF q hq)
  have hN3 : h100 (m + 1) = some (cI D 9 (fun _ => 0)) := (o102 _ (by omega)).trans hN3
  have hN9 : h100 (m + 2) = some (cI D 5 (upd (upd (upd (upd (upd (fun _ => 0) (0) ((-1))) (1) ((-1))) (2) ((-1))) (3) ((-1))) (4) ((-1)))) := (o102 _ (by omega)).trans hN9
  have hN30 : h100 (m + 3) = some (cI D 4 (fun _ => 0)) := (o102 _ (by omega)).trans hN30
  have hN36 : h100 (m + 4) = some (cI D 4 (fun _ => 0)) := (o102 _ (by omega)).trans hN36
  have hN42 : h100 (m + 5) = some (cI D 4 (fun _ => 0)) := (o102 _ (by omega)).trans hN42
  have hN48 : h100 (m + 6) = some (cI D 4 (fun _ => 0)) := (o102 _ (by omega)).trans hN48
  have hN54 : h100 (m + 7) = some (cI D 12 (fun _ => 0)) := (o102 _ (by omega)).trans hN54
  have hN60 : h100 (m + 8) = some (cI D 12 (fun _ => 0)) := (o102 _ (by omega)).trans hN60
  have hN66 : h100 (m + 9) = some (cB D 16 (fun _ => 0)) := (o102 _ (by omega)).trans hN66
  have hN72 : h100 (m + 10) = some (cI D 5 (fun _ => 0)) := (o102 _ (by omega)).trans hN72
  have hN78 : h100 (m + 11) = some (cI D 5 (fun _ => 0)) := (o102 _ (by omega)).trans hN78
  have hN84 : h100 (m + 12) = some (cI D 5 (fun _ => 0)) := (o102 _ (by omega)).trans hN84
  have hN90 : h100 (m + 13) = some (cI D 4 (fun _ => 0)) := (o102 _ (by omega)).trans hN90
  have hN96 : h100 (m + 14) = some (cI D 12 (fun _ => 0)) := (o102 _ (by omega)).trans hN96
  show qG X 15 113 (m + 16) h100 132 [(0, .ref (m))] [.ref (m + 15), .ref (m)]
  refine pf_12_53 C hin (hO) (v := .ref (m + 15)) rfl rfl (Nat.le_of_ble_eq_true rfl) dX12_init_132 (pc' := 135) rfl (fun h103 e104 o105 => ?_)
  have hO : h103 (m) = some (.inr (12, [.int (0), .int (0), .ref (m + 1), .int (0), .int (0), .int (0), .int (0), .ref (m + 2), .int (0), .ref (m + 3), .ref (m + 4), .ref (m + 5), .ref (m + 6), .int (0), .ref (m + 7), .ref (m + 8), .int (0), .ref (m + 9), .long (0), .int (0), .int (0), .ref (m + 10), .ref (m + 11), .int (0), .int (0), .int (0), .int (0), .int (0), .int (0), .int (0), .int (0), .ref (m + 12), .ref (m + 13), .ref (m + 14), .ref (m + 15), .long (0)])) := e104
  have hF : ∀ q, (q < m) → h103 q = h q := fun q hq => (o105 q (by omega)).trans (hF q hq)
  have hN3 : h103 (m + 1) = some (cI D 9 (fun _ => 0)) := (o105 _ (by omega)).trans hN3
  have hN9 : h103 (m + 2) = some (cI D 5 (upd (upd (upd (upd (upd (fun _ => 0) (0) ((-1))) (1) ((-1))) (2) ((-1))) (3) ((-1))) (4) ((-1)))) := (o105 _ (by omega)).trans hN9
  have hN30 : h103 (m + 3) = some (cI D 4 (fun _ => 0)) := (o105 _ (by omega)).trans hN30
  have hN36 : h103 (m + 4) = some (cI D 4 (fun _ => 0)) := (o105 _ (by omega)).trans hN36
  have hN42 : h103 (m + 5) = some (cI D 4 (fun _ => 0)) := (o105 _ (by omega)).trans hN42
  have hN48 : h103 (m + 6) = some (cI D 4 (fun _ => 0)) := (o105 _ (by omega)).trans hN48
  have hN54 : h103 (m + 7) = some (cI D 12 (fun _ => 0)) := (o105 _ (by omega)).trans hN54
  have hN60 : h103 (m + 8) = some (cI D 12 (fun _ => 0)) := (o105 _ (by omega)).trans hN60
  have hN66 : h103 (m + 9) = some (cB D 16 (fun _ => 0)) := (o105 _ (by omega)).trans hN66
  have hN72 : h103 (m + 10) = some (cI D 5 (fun _ => 0)) := (o105 _ (by omega)).trans hN72
  have hN78 : h103 (m + 11) = some (cI D 5 (fun _ => 0)) := (o105 _ (by omega)).trans hN78
  have hN84 : h103 (m + 12) = some (cI D 5 (fun _ => 0)) := (o105 _ (by omega)).trans hN84
  have hN90 : h103 (m + 13) = some (cI D 4 (fun _ => 0)) := (o105 _ (by omega)).trans hN90
  have hN96 : h103 (m + 14) = some (cI D 12 (fun _ => 0)) := (o105 _ (by omega)).trans hN96
  have hN102 : h103 (m + 15) = some (cI D 12 (fun _ => 0)) := (o105 _ (by omega)).trans hN102
  refine g_canon C (hN9) (g := fun _ => -1) (lt5d (by simp [upd]) (by simp [upd]) (by simp [upd]) (by simp [upd]) (by simp [upd])) (fun h106 e107 o108 => ?_)
  have hN9 : h106 (m + 2) = some (cI D 5 (fun _ => -1)) := e107
  have hO : h106 (m) = some (.inr (12, [.int (0), .int (0), .ref (m + 1), .int (0), .int (0), .int (0), .int (0), .ref (m + 2), .int (0), .ref (m + 3), .ref (m + 4), .ref (m + 5), .ref (m + 6), .int (0), .ref (m + 7), .ref (m + 8), .int (0), .ref (m + 9), .long (0), .int (0), .int (0), .ref (m + 10), .ref (m + 11), .int (0), .int (0), .int (0), .int (0), .int (0), .int (0), .int (0), .int (0), .ref (m + 12), .ref (m + 13), .ref (m + 14), .ref (m + 15), .long (0)])) := (o108 _ (by omega)).trans hO
  have hF : ∀ q, (q < m) → h106 q = h q := fun q hq => (o108 q (by omega)).trans (hF q hq)
  have hN3 : h106 (m + 1) = some (cI D 9 (fun _ => 0)) := (o108 _ (by omega)).trans hN3
  have hN30 : h106 (m + 3) = some (cI D 4 (fun _ => 0)) := (o108 _ (by omega)).trans hN30
  have hN36 : h106 (m + 4) = some (cI D 4 (fun _ => 0)) := (o108 _ (by omega)).trans hN36
  have hN42 : h106 (m + 5) = some (cI D 4 (fun _ => 0)) := (o108 _ (by omega)).trans hN42
  have hN48 : h106 (m + 6) = some (cI D 4 (fun _ => 0)) := (o108 _ (by omega)).trans hN48
  have hN54 : h106 (m + 7) = some (cI D 12 (fun _ => 0)) := (o108 _ (by omega)).trans hN54
  have hN60 : h106 (m + 8) = some (cI D 12 (fun _ => 0)) := (o108 _ (by omega)).trans hN60
  have hN66 : h106 (m + 9) = some (cB D 16 (fun _ => 0)) := (o108 _ (by omega)).trans hN66
  have hN72 : h106 (m + 10) = some (cI D 5 (fun _ => 0)) := (o108 _ (by omega)).trans hN72
  have hN78 : h106 (m + 11) = some (cI D 5 (fun _ => 0)) := (o108 _ (by omega)).trans hN78
  have hN84 : h106 (m + 12) = some (cI D 5 (fun _ => 0)) := (o108 _ (by omega)).trans hN84
  have hN90 : h106 (m + 13) = some (cI D 4 (fun _ => 0)) := (o108 _ (by omega)).trans hN90
  have hN96 : h106 (m + 14) = some (cI D 12 (fun _ => 0)) := (o108 _ (by omega)).trans hN96
  have hN102 : h106 (m + 15) = some (cI D 12 (fun _ => 0)) := (o108 _ (by omega)).trans hN102
  show qG X 15 113 (m + 16) h106 135 [(0, .ref (m))] []
  exact ret _ _ _ dX12_init_135 (⟨⟨0, 0, 0, 0, 0, 0, fun _ => 0, fun _ => 0, hO, hN3, hN9, hN30, hN36, hN42, hN48, hN54, hN60, hN66, hN72, hN78, hN84, hN90, hN96, hN102⟩, hF⟩)

/-! constructors -/
set_option maxHeartbeats 4000000 in
set_option maxRecDepth 100000 in
theorem k_X9_init (l : Launch) (D : va_G) (b : Nat) {h : qH} {a : Nat} (hO : h a = some (.inr (9, [.null, .int (0), .int (0)]))) : qMc l D b yX9_init cX9_init 1 1 20 1 9 [.ref (a)] h (a + 1) (fun h' => StAt D h' a (fun _ => 0) 0 0 ∧ ∀ q, (q < a) → h' q = h q) := by
  refine q_c (L := [(0, .ref (a))]) (own := RX9) (by decide) rfl (Nat.le_of_ble_eq_true rfl) rfl ?_
  intro X C hin ret
  have hF : ∀ q, (q < a) → h q = h q := fun _ _ => rfl
  refine g_aload_n C 0 dX9_init_0 rfl rfl rfl ?_
  refine g_objInit C hw_9_3 ⟨Nat.le_of_ble_eq_true rfl, Nat.le_of_ble_eq_true rfl⟩ dX9_init_1 rfl ?_
  refine g_aload_n C 0 dX9_init_4 rfl rfl rfl ?_
  refine g_bipush C (v := 9) dX9_init_5 (by decide) rfl ?_
  refine g_newI C (N := 9) rfl (by decide) (AW_m 85 (by decide +kernel) rfl) ⟨Nat.le_of_ble_eq_true rfl, Nat.le_of_ble_eq_true rfl⟩ dX9_init_7 (pc' := 9) rfl (fun h1 e2 o3 => ?_)
  have hN3 : h1 (a + 1) = some (cI D 9 (fun _ => 0)) := e2
  have hO : h1 (a) = some (.inr (9, [.null, .int (0), .int (0)])) := (o3 _ (by omega)).trans hO
  have hF : ∀ q, (q < a) → h1 q = h q := fun q hq => (o3 q (by omega)).trans (hF q hq)
  show qG X 1 9 (a + 2) h1 9 [(0, .ref (a))] [.ref (a + 1), .ref (a)]
  refine pf_9_9 C hin (hO) (v := .ref (a + 1)) rfl rfl (Nat.le_of_ble_eq_true rfl) dX9_init_9 (pc' := 12) rfl (fun h4 e5 o6 => ?_)
  have hO : h4 (a) = some (.inr (9, [.ref (a + 1), .int (0), .int (0)])) := e5
  have hF : ∀ q, (q < a) → h4 q = h q := fun q hq => (o6 q (by omega)).trans (hF q hq)
  have hN3 : h4 (a + 1) = some (cI D 9 (fun _ => 0)) := (o6 _ (by omega)).trans hN3
  exact ret _ _ _ dX9_init_12 (⟨⟨hO, hN3⟩, hF⟩)
set_option maxHeartbeats 4000000 in
set_option maxRecDepth 100000 in
theorem k_X8_init (l : Launch) (D : va_G) (b : Nat) {h : qH} {a : Nat} (hO : h a = some (.inr (8, [.null, .int (0)]))) : qMc l D b yX8_init cX8_init 1 1 20 1 16 [.ref (a)] h (a + 1) (fun h' => PgAt D h' a (fun _ => 0) 0 ∧ ∀ q, (q < a) → h' q = h q) := by
  refine q_c (L := [(0, .ref (a))]) (own := RX8) (by decide) rfl (Nat.le_of_ble_eq_true rfl) rfl ?_
  intro X C hin ret
  have hF : ∀ q, (q < a) → h q = h q := fun _ _ => rfl
  refine g_aload_n C 0 dX8_init_0 rfl rfl rfl ?_
  refine g_objInit C hw_8_3 ⟨Nat.le_of_ble_eq_true rfl, Nat.le_of_ble_eq_true rfl⟩ dX8_init_1 rfl ?_
  refine g_aload_n C 0 dX8_init_4 rfl rfl rfl ?_
  refine g_bipush C (v := 16) dX8_init_5 (by decide) rfl ?_
  refine g_newI C (N := 16) rfl (by decide) (AW_m 85 (by decide +kernel) rfl) ⟨Nat.le_of_ble_eq_true rfl, Nat.le_of_ble_eq_true rfl⟩ dX8_init_7 (pc' := 9) rfl (fun h1 e2 o3 => ?_)
  have hN3 : h1 (a + 1) = some (cI D 16 (fun _ => 0)) := e2
  have hO : h1 (a) = some (.inr (8, [.null, .int (0)])) := (o3 _ (by omega)).trans hO
  have hF : ∀ q, (q < a) → h1 q = h q := fun q hq => (o3 q (by omega)).trans (hF q hq)
  show qG X 1 16 (a + 2) h1 9 [(0, .ref (a))] [.ref (a + 1), .ref (a)]
  refine pf_8_11 C hin (hO) (v := .ref (a + 1)) rfl rfl (Nat.le_of_ble_eq_true rfl) dX8_init_9 (pc' := 12) rfl (fun h4 e5 o6 => ?_)
  have hO : h4 (a) = some (.inr (8, [.ref (a + 1), .int (0)])) := e5
  have hF : ∀ q, (q < a) → h4 q = h q := fun q hq => (o6 q (by omega)).trans (hF q hq)
  have hN3 : h4 (a + 1) = some (cI D 16 (fun _ => 0)) := (o6 _ (by omega)).trans hN3
  exact ret _ _ _ dX8_init_12 (⟨⟨hO, hN3⟩, hF⟩)
set_option maxHeartbeats 4000000 in
set_option maxRecDepth 100000 in
theorem k_X0_init (l : Launch) (D : va_G) (b : Nat) {h : qH} {a : Nat} (hO : h a = some (.inr (0, [.null, .null, .int (0)]))) : qMc l D b yX0_init cX0_init 1 1 20 2 24 [.ref (a)] h (a + 1) (fun h' => BkAt D h' a (fun _ => 0) (fun _ => 0) 0 ∧ ∀ q, (q < a) → h' q = h q) := by
  refine q_c (L := [(0, .ref (a))]) (own := RX0) (by decide) rfl (Nat.le_of_ble_eq_true rfl) rfl ?_
  intro X C hin ret
  have hF : ∀ q, (q < a) → h q = h q := fun _ _ => rfl
  refine g_aload_n C 0 dX0_init_0 rfl rfl rfl ?_
  refine g_objInit C hw_0_3 ⟨Nat.le_of_ble_eq_true rfl, Nat.le_of_ble_eq_true rfl⟩ dX0_init_1 rfl ?_
  refine g_aload_n C 0 dX0_init_4 rfl rfl rfl ?_
  refine g_bipush C (v := 12) dX0_init_5 (by decide) rfl ?_
  refine g_newI C (N := 12) rfl (by decide) (AW_m 85 (by decide +kernel) rfl) ⟨Nat.le_of_ble_eq_true rfl, Nat.le_of_ble_eq_true rfl⟩ dX0_init_7 (pc' := 9) rfl (fun h1 e2 o3 => ?_)
  have hN3 : h1 (a + 1) = some (cI D 12 (fun _ => 0)) := e2
  have hO : h1 (a) = some (.inr (0, [.null, .null, .int (0)])) := (o3 _ (by omega)).trans hO
  have hF : ∀ q, (q < a) → h1 q = h q := fun q hq => (o3 q (by omega)).trans (hF q hq)
  show qG X 1 12 (a + 2) h1 9 [(0, .ref (a))] [.ref (a + 1), .ref (a)]
  refine pf_0_11 C hin (hO) (v := .ref (a + 1)) rfl rfl (Nat.le_of_ble_eq_true rfl) dX0_init_9 (pc' := 12) rfl (fun h4 e5 o6 => ?_)
  have hO : h4 (a) = some (.inr (0, [.ref (a + 1), .null, .int (0)])) := e5
  have hF : ∀ q, (q < a) → h4 q = h q := fun q hq => (o6 q (by omega)).trans (hF q hq)
  have hN3 : h4 (a + 1) = some (cI D 12 (fun _ => 0)) := (o6 _ (by omega)).trans hN3
  refine g_aload_n C 0 dX0_init_12 rfl rfl rfl ?_
  refine g_bipush C (v := 12) dX0_init_13 (by decide) rfl ?_
  refine g_newI C (N := 12) rfl (by decide) (AW_m 85 (by decide +kernel) rfl) ⟨Nat.le_of_ble_eq_true rfl, Nat.le_of_ble_eq_true rfl⟩ dX0_init_15 (pc' := 17) rfl (fun h7 e8 o9 => ?_)
  have hN9 : h7 (a + 2) = some (cI D 12 (fun _ => 0)) := e8
  have hO : h7 (a) = some (.inr (0, [.ref (a + 1), .null, .int (0)])) := (o9 _ (by omega)).trans hO
  have hF : ∀ q, (q < a) → h7 q = h q := fun q hq => (o9 q (by omega)).trans (hF q hq)
  have hN3 : h7 (a + 1) = some (cI D 12 (fun _ => 0)) := (o9 _ (by omega)).trans hN3
  show qG X 2 24 (a + 3) h7 17 [(0, .ref (a))] [.ref (a + 2), .ref (a)]
  refine pf_0_15 C hin (hO) (v := .ref (a + 2)) rfl rfl (Nat.le_of_ble_eq_true rfl) dX0_init_17 (pc' := 20) rfl (fun h10 e11 o12 => ?_)
  have hO : h10 (a) = some (.inr (0, [.ref (a + 1), .ref (a + 2), .int (0)])) := e11
  have hF : ∀ q, (q < a) → h10 q = h q := fun q hq => (o12 q (by omega)).trans (hF q hq)
  have hN3 : h10 (a + 1) = some (cI D 12 (fun _ => 0)) := (o12 _ (by omega)).trans hN3
  have hN9 : h10 (a + 2) = some (cI D 12 (fun _ => 0)) := (o12 _ (by omega)).trans hN9
  exact ret _ _ _ dX0_init_20 (⟨⟨hO, hN3, hN9⟩, hF⟩)
set_option maxHeartbeats 4000000 in
set_option maxRecDepth 100000 in
theorem k_X7_init (l : Launch) (D : va_G) (b : Nat) {h : qH} {a s : Nat} (hO : h a = some (.inr (7, [.null, .null, .int (0), .int (0), .null, .null, .null, .null]))) : qMc l D b yX7_init cX7_init 3 1 20 33 117 [.ref (a), .ref (s)] h (a + 1) (fun h' => OlAny D h' a s (fun _ => -1) 0 0 ∧ ∀ q, (q < a) → h' q = h q) := by
  refine q_c (L := [(0, .ref (a)), (1, .ref (s))]) (own := RX7) (by decide) rfl (Nat.le_of_ble_eq_true rfl) rfl ?_
  intro X C hin ret
  have hF : ∀ q, (q < a) → h q = h q := fun _ _ => rfl
  refine g_aload_n C 0 dX7_init_0 rfl rfl rfl ?_
  refine g_objInit C hw_7_3 ⟨Nat.le_of_ble_eq_true rfl, Nat.le_of_ble_eq_true rfl⟩ dX7_init_1 rfl ?_
  refine g_aload_n C 0 dX7_init_4 rfl rfl rfl ?_
  refine g_iconst C (v := 5) dX7_init_5 (by decide) rfl ?_
  refine g_newI C (N := 5) rfl (by decide) (AW_m 85 (by decide +kernel) rfl) ⟨Nat.le_of_ble_eq_true rfl, Nat.le_of_ble_eq_true rfl⟩ dX7_init_6 (pc' := 8) rfl (fun h1 e2 o3 => ?_)
  have hN3 : h1 (a + 1) = some (cI D 5 (fun _ => 0)) := e2
  have hO : h1 (a) = some (.inr (7, [.null, .null, .int (0), .int (0), .null, .null, .null, .null])) := (o3 _ (by omega)).trans hO
  have hF : ∀ q, (q < a) → h1 q = h q := fun q hq => (o3 q (by omega)).trans (hF q hq)
  show qG X 1 5 (a + 2) h1 8 [(0, .ref (a)), (1, .ref (s))] [.ref (a + 1), .ref (a)]
  refine pf_7_9 C hin (hO) (v := .ref (a + 1)) rfl rfl (Nat.le_of_ble_eq_true rfl) dX7_init_8 (pc' := 11) rfl (fun h4 e5 o6 => ?_)
  have hO : h4 (a) = some (.inr (7, [.null, .ref (a + 1), .int (0), .int (0), .null, .null, .null, .null])) := e5
  have hF : ∀ q, (q < a) → h4 q = h q := fun q hq => (o6 q (by omega)).trans (hF q hq)
  have hN3 : h4 (a + 1) = some (cI D 5 (fun _ => 0)) := (o6 _ (by omega)).trans hN3
  refine g_aload_n C 0 dX7_init_11 rfl rfl rfl ?_
  refine g_bipush C (v := 7) dX7_init_12 (by decide) rfl ?_
  refine g_iconst C (v := 3) dX7_init_14 (by decide) rfl ?_
  refine g_mnaJ C ⟨(AW_m 106 (by decide +kernel) rfl), (AW_m 137 (by decide +kernel) rfl)⟩ ⟨Nat.le_of_ble_eq_true rfl, Nat.le_of_ble_eq_true rfl⟩ dX7_init_15 (pc' := 19) rfl (fun h7 e8 r9 o10 => ?_)
  have hN10 : GrJ D h7 (a + 2) (fun _ _ => 0) := ⟨e8, r9⟩
  have hO : h7 (a) = some (.inr (7, [.null, .ref (a + 1), .int (0), .int (0), .null, .null, .null, .null])) := (o10 _ (by omega)).trans hO
  have hF : ∀ q, (q < a) → h7 q = h q := fun q hq => (o10 q (by omega)).trans (hF q hq)
  have hN3 : h7 (a + 1) = some (cI D 5 (fun _ => 0)) := (o10 _ (by omega)).trans hN3
  show qG X 9 33 (a + 10) h7 19 [(0, .ref (a)), (1, .ref (s))] [.ref (a + 2), .ref (a)]
  refine pf_7_17 C hin (hO) (v := .ref (a + 2)) rfl rfl (Nat.le_of_ble_eq_true rfl) dX7_init_19 (pc' := 22) rfl (fun h11 e12 o13 => ?_)
  have hO : h11 (a) = some (.inr (7, [.null, .ref (a + 1), .int (0), .int (0), .ref (a + 2), .null, .null, .null])) := e12
  have hF : ∀ q, (q < a) → h11 q = h q := fun q hq => (o13 q (by omega)).trans (hF q hq)
  have hN3 : h11 (a + 1) = some (cI D 5 (fun _ => 0)) := (o13 _ (by omega)).trans hN3
  have hN10 : GrJ D h11 (a + 2) (fun _ _ => 0) := ⟨(o13 _ (by omega)).trans hN10.1, fun i hi => (o13 _ (by omega)).trans (hN10.2 i hi)⟩
  refine g_aload_n C 0 dX7_init_22 rfl rfl rfl ?_
  refine g_bipush C (v := 7) dX7_init_23 (by decide) rfl ?_
  refine g_iconst C (v := 3) dX7_init_25 (by decide) rfl ?_
  refine g_mnaJ C ⟨(AW_m 106 (by decide +kernel) rfl), (AW_m 137 (by decide +kernel) rfl)⟩ ⟨Nat.le_of_ble_eq_true rfl, Nat.le_of_ble_eq_true rfl⟩ dX7_init_26 (pc' := 30) rfl (fun h14 e15 r16 o17 => ?_)
  have hN17 : GrJ D h14 (a + 10) (fun _ _ => 0) := ⟨e15, r16⟩
  have hO : h14 (a) = some (.inr (7, [.null, .ref (a + 1), .int (0), .int (0), .ref (a + 2), .null, .null, .null])) := (o17 _ (by omega)).trans hO
  have hF : ∀ q, (q < a) → h14 q = h q := fun q hq => (o17 q (by omega)).trans (hF q hq)
  have hN3 : h14 (a + 1) = some (cI D 5 (fun _ => 0)) := (o17 _ (by omega)).trans hN3
  have hN10 : GrJ D h14 (a + 2) (fun _ _ => 0) := ⟨(o17 _ (by omega)).trans hN10.1, fun i hi => (o17 _ (by omega)).trans (hN10.2 i hi)⟩
  show qG X 17 61 (a + 18) h14 30 [(0, .ref (a)), (1, .ref (s))] [.ref (a + 10), .ref (a)]
  refine pf_7_20 C hin (hO) (v := .ref (a + 10)) rfl rfl (Nat.le_of_ble_eq_true rfl) dX7_init_30 (pc' := 33) rfl (fun h18 e19 o20 => ?_)
  have hO : h18 (a) = some (.inr (7, [.null, .ref (a + 1), .int (0), .int (0), .ref (a + 2), .ref (a + 10), .null, .null])) := e19
  have hF : ∀ q, (q < a) → h18 q = h q := fun q hq => (o20 q (by omega)).trans (hF q hq)
  have hN3 : h18 (a + 1) = some (cI D 5 (fun _ => 0)) := (o20 _ (by omega)).trans hN3
  have hN10 : GrJ D h18 (a + 2) (fun _ _ => 0) := ⟨(o20 _ (by omega)).trans hN10.1, fun i hi => (o20 _ (by omega)).trans (hN10.2 i hi)⟩
  have hN17 : GrJ D h18 (a + 10) (fun _ _ => 0) := ⟨(o20 _ (by omega)).trans hN17.1, fun i hi => (o20 _ (by omega)).trans (hN17.2 i hi)⟩
  refine g_aload_n C 0 dX7_init_33 rfl rfl rfl ?_
  refine g_bipush C (v := 7) dX7_init_34 (by decide) rfl ?_
  refine g_iconst C (v := 3) dX7_init_36 (by decide) rfl ?_
  refine g_mnaJ C ⟨(AW_m 106 (by decide +kernel) rfl), (AW_m 137 (by decide +kernel) rfl)⟩ ⟨Nat.le_of_ble_eq_true rfl, Nat.le_of_ble_eq_true rfl⟩ dX7_init_37 (pc' := 41) rfl (fun h21 e22 r23 o24 => ?_)
  have hN24 : GrJ D h21 (a + 18) (fun _ _ => 0) := ⟨e22, r23⟩
  have hO : h21 (a) = some (.inr (7, [.null, .ref (a + 1), .int (0), .int (0), .ref (a + 2), .ref (a + 10), .null, .null])) := (o24 _ (by omega)).trans hO
  have hF : ∀ q, (q < a) → h21 q = h q := fun q hq => (o24 q (by omega)).trans (hF q hq)
  have hN3 : h21 (a + 1) = some (cI D 5 (fun _ => 0)) := (o24 _ (by omega)).trans hN3
  have hN10 : GrJ D h21 (a + 2) (fun _ _ => 0) := ⟨(o24 _ (by omega)).trans hN10.1, fun i hi => (o24 _ (by omega)).trans (hN10.2 i hi)⟩
  have hN17 : GrJ D h21 (a + 10) (fun _ _ => 0) := ⟨(o24 _ (by omega)).trans hN17.1, fun i hi => (o24 _ (by omega)).trans (hN17.2 i hi)⟩
  show qG X 25 89 (a + 26) h21 41 [(0, .ref (a)), (1, .ref (s))] [.ref (a + 18), .ref (a)]
  refine pf_7_23 C hin (hO) (v := .ref (a + 18)) rfl rfl (Nat.le_of_ble_eq_true rfl) dX7_init_41 (pc' := 44) rfl (fun h25 e26 o27 => ?_)
  have hO : h25 (a) = some (.inr (7, [.null, .ref (a + 1), .int (0), .int (0), .ref (a + 2), .ref (a + 10), .ref (a + 18), .null])) := e26
  have hF : ∀ q, (q < a) → h25 q = h q := fun q hq => (o27 q (by omega)).trans (hF q hq)
  have hN3 : h25 (a + 1) = some (cI D 5 (fun _ => 0)) := (o27 _ (by omega)).trans hN3
  have hN10 : GrJ D h25 (a + 2) (fun _ _ => 0) := ⟨(o27 _ (by omega)).trans hN10.1, fun i hi => (o27 _ (by omega)).trans (hN10.2 i hi)⟩
  have hN17 : GrJ D h25 (a + 10) (fun _ _ => 0) := ⟨(o27 _ (by omega)).trans hN17.1, fun i hi => (o27 _ (by omega)).trans (hN17.2 i hi)⟩
  have hN24 : GrJ D h25 (a + 18) (fun _ _ => 0) := ⟨(o27 _ (by omega)).trans hN24.1, fun i hi => (o27 _ (by omega)).trans (hN24.2 i hi)⟩
  refine g_aload_n C 0 dX7_init_44 rfl rfl rfl ?_
  refine g_bipush C (v := 7) dX7_init_45 (by decide) rfl ?_
  refine g_iconst C (v := 3) dX7_init_47 (by decide) rfl ?_
  refine g_mnaI C ⟨(AW_m 108 (by decide +kernel) rfl), (AW_m 85 (by decide +kernel) rfl)⟩ ⟨Nat.le_of_ble_eq_true rfl, Nat.le_of_ble_eq_true rfl⟩ dX7_init_48 (pc' := 52) rfl (fun h28 e29 r30 o31 => ?_)
  have hN31 : GrI D h28 (a + 26) (fun _ _ => 0) := ⟨e29, r30⟩
  have hO : h28 (a) = some (.inr (7, [.null, .ref (a + 1), .int (0), .int (0), .ref (a + 2), .ref (a + 10), .ref (a + 18), .null])) := (o31 _ (by omega)).trans hO
  have hF : ∀ q, (q < a) → h28 q = h q := fun q hq => (o31 q (by omega)).trans (hF q hq)
  have hN3 : h28 (a + 1) = some (cI D 5 (fun _ => 0)) := (o31 _ (by omega)).trans hN3
  have hN10 : GrJ D h28 (a + 2) (fun _ _ => 0) := ⟨(o31 _ (by omega)).trans hN10.1, fun i hi => (o31 _ (by omega)).trans (hN10.2 i hi)⟩
  have hN17 : GrJ D h28 (a + 10) (fun _ _ => 0) := ⟨(o31 _ (by omega)).trans hN17.1, fun i hi => (o31 _ (by omega)).trans (hN17.2 i hi)⟩
  have hN24 : GrJ D h28 (a + 18) (fun _ _ => 0) := ⟨(o31 _ (by omega)).trans hN24.1, fun i hi => (o31 _ (by omega)).trans (hN24.2 i hi)⟩
  show qG X 33 117 (a + 34) h28 52 [(0, .ref (a)), (1, .ref (s))] [.ref (a + 26), .ref (a)]
  refine pf_7_28 C hin (hO) (v := .ref (a + 26)) rfl rfl (Nat.le_of_ble_eq_true rfl) dX7_init_52 (pc' := 55) rfl (fun h32 e33 o34 => ?_)
  have hO : h32 (a) = some (.inr (7, [.null, .ref (a + 1), .int (0), .int (0), .ref (a + 2), .ref (a + 10), .ref (a + 18), .ref (a + 26)])) := e33
  have hF : ∀ q, (q < a) → h32 q = h q := fun q hq => (o34 q (by omega)).trans (hF q hq)
  have hN3 : h32 (a + 1) = some (cI D 5 (fun _ => 0)) := (o34 _ (by omega)).trans hN3
  have hN10 : GrJ D h32 (a + 2) (fun _ _ => 0) := ⟨(o34 _ (by omega)).trans hN10.1, fun i hi => (o34 _ (by omega)).trans (hN10.2 i hi)⟩
  have hN17 : GrJ D h32 (a + 10) (fun _ _ => 0) := ⟨(o34 _ (by omega)).trans hN17.1, fun i hi => (o34 _ (by omega)).trans (hN17.2 i hi)⟩
  have hN24 : GrJ D h32 (a + 18) (fun _ _ => 0) := ⟨(o34 _ (by omega)).trans hN24.1, fun i hi => (o34 _ (by omega)).trans (hN24.2 i hi)⟩
  have hN31 : GrI D h32 (a + 26) (fun _ _ => 0) := ⟨(o34 _ (by omega)).trans hN31.1, fun i hi => (o34 _ (by omega)).trans (hN31.2 i hi)⟩
  refine g_aload_n C 0 dX7_init_55 rfl rfl rfl ?_
  refine g_aload_n C 1 dX7_init_56 rfl rfl rfl ?_
  refine pf_7_31 C hin (hO) (v := .ref (s)) rfl rfl (Nat.le_of_ble_eq_true rfl) dX7_init_57 (pc' := 60) rfl (fun h35 e36 o37 => ?_)
  have hO : h35 (a) = some (.inr (7, [.ref (s), .ref (a + 1), .int (0), .int (0), .ref (a + 2), .ref (a + 10), .ref (a + 18), .ref (a + 26)])) := e36
  have hF : ∀ q, (q < a) → h35 q = h q := fun q hq => (o37 q (by omega)).trans (hF q hq)
  have hN3 : h35 (a + 1) = some (cI D 5 (fun _ => 0)) := (o37 _ (by omega)).trans hN3
  have hN10 : GrJ D h35 (a + 2) (fun _ _ => 0) := ⟨(o37 _ (by omega)).trans hN10.1, fun i hi => (o37 _ (by omega)).trans (hN10.2 i hi)⟩
  have hN17 : GrJ D h35 (a + 10) (fun _ _ => 0) := ⟨(o37 _ (by omega)).trans hN17.1, fun i hi => (o37 _ (by omega)).trans (hN17.2 i hi)⟩
  have hN24 : GrJ D h35 (a + 18) (fun _ _ => 0) := ⟨(o37 _ (by omega)).trans hN24.1, fun i hi => (o37 _ (by omega)).trans (hN24.2 i hi)⟩
  have hN31 : GrI D h35 (a + 26) (fun _ _ => 0) := ⟨(o37 _ (by omega)).trans hN31.1, fun i hi => (o37 _ (by omega)).trans (hN31.2 i hi)⟩
  refine g_iconst C (v := 0) dX7_init_60 (by decide) rfl ?_
  refine g_istore_n C ([(2, .int (0)), (0, .ref (a)), (1, .ref (s))]) dX7_init_61 rfl (by decide) rfl rfl ?_
  refine g_iload_n C 0 dX7_init_62 rfl rfl rfl ?_
  refine g_iconst C (v := 4) dX7_init_63 (by decide) rfl ?_
  refine g_icmp_gt C dX7_init_64 (tgt := 80) (by decide) (pc' := 67) rfl (fun c64 => absurd c64 (by decide)) (fun _ => ?_)
  refine g_aload_n C 1 dX7_init_67 rfl rfl rfl ?_
  refine gf_7_9 C (hO) (v := .ref (a + 1)) rfl dX7_init_68 rfl ?_
  refine g_iload_n C 0 dX7_init_71 rfl rfl rfl ?_
  refine g_iconst C (v := -1) dX7_init_72 (by decide) rfl ?_
  refine g_iast' C (hN3) (j := 0) rfl (by omega) (by decide) dX7_init_73 (pc' := 74) rfl (fun h38 e39 o40 => ?_)
  have hN3 : h38 (a + 1) = some (cI D 5 (upd (fun _ => 0) (0) ((-1)))) := e39
  have hO : h38 (a) = some (.inr (7, [.ref (s), .ref (a + 1), .int (0), .int (0), .ref (a + 2), .ref (a + 10), .ref (a + 18), .ref (a + 26)])) := (o40 _ (by omega)).trans hO
  have hF : ∀ q, (q < a) → h38 q = h q := fun q hq => (o40 q (by omega)).trans (hF q hq)
  have hN10 : GrJ D h38 (a + 2) (fun _ _ => 0) := ⟨(o40 _ (by omega)).trans hN10.1, fun i hi => (o40 _ (by omega)).trans (hN10.2 i hi)⟩
  have hN17 : GrJ D h38 (a + 10) (fun _ _ => 0) := ⟨(o40 _ (by omega)).trans hN17.1, fun i hi => (o40 _ (by omega)).trans (hN17.2 i hi)⟩
  have hN24 : GrJ D h38 (a + 18) (fun _ _ => 0) := ⟨(o40 _ (by omega)).trans hN24.1, fun i hi => (o40 _ (by omega)).trans (hN24.2 i hi)⟩
  have hN31 : GrI D h38 (a + 26) (fun _ _ => 0) := ⟨(o40 _ (by omega)).trans hN31.1, fun i hi => (o40 _ (by omega)).trans (hN31.2 i hi)⟩
  refine g_iinc C (v := 1) 0 ([(2, .int (1)), (0, .ref (a)), (1, .ref (s))]) dX7_init_74 rfl (by decide) (by decide) rfl rfl ?_
  refine g_goto C dX7_init_77 (tgt := 62) (by decide) ?_
  refine g_iload_n C 0 dX7_init_62 rfl rfl rfl ?_
  refine g_iconst C (v := 4) dX7_init_63 (by decide) rfl ?_
  refine g_icmp_gt C dX7_init_64 (tgt := 80) (by decide) (pc' := 67) rfl (fun c64 => absurd c64 (by decide)) (fun _ => ?_)
  refine g_aload_n C 1 dX7_init_67 rfl rfl rfl ?_
  refine gf_7_9 C (hO) (v := .ref (a + 1)) rfl dX7_init_68 rfl ?_
  refine g_iload_n C 0 dX7_init_71 rfl rfl rfl ?_
  refine g_iconst C (v := -1) dX7_init_72 (by decide) rfl ?_
  refine g_iast' C (hN3) (j := 1) rfl (by omega) (by decide) dX7_init_73 (pc' := 74) rfl (fun h41 e42 o43 => ?_)
  have hN3 : h41 (a + 1) = some (cI D 5 (upd (upd (fun _ => 0) (0) ((-1))) (1) ((-1)))) := e42
  have hO : h41 (a) = some (.inr (7, [.ref (s), .ref (a + 1), .int (0), .int (0), .ref (a + 2), .ref (a + 10), .ref (a + 18), .ref (a + 26)])) := (o43 _ (by omega)).trans hO
  have hF : ∀ q, (q < a) → h41 q = h q := fun q hq => (o43 q (by omega)).trans (hF q hq)
  have hN10 : GrJ D h41 (a + 2) (fun _ _ => 0) := ⟨(o43 _ (by omega)).trans hN10.1, fun i hi => (o43 _ (by omega)).trans (hN10.2 i hi)⟩
  have hN17 : GrJ D h41 (a + 10) (fun _ _ => 0) := ⟨(o43 _ (by omega)).trans hN17.1, fun i hi => (o43 _ (by omega)).trans (hN17.2 i hi)⟩
  have hN24 : GrJ D h41 (a + 18) (fun _ _ => 0) := ⟨(o43 _ (by omega)).trans hN24.1, fun i hi => (o43 _ (by omega)).trans (hN24.2 i hi)⟩
  have hN31 : GrI D h41 (a + 26) (fun _ _ => 0) := ⟨(o43 _ (by omega)).trans hN31.1, fun i hi => (o43 _ (by omega)).trans (hN31.2 i hi)⟩
  refine g_iinc C (v := 2) 0 ([(2, .int (2)), (0, .ref (a)), (1, .ref (s))]) dX7_init_74 rfl (by decide) (by decide) rfl rfl ?_
  refine g_goto C dX7_init_77 (tgt := 62) (by decide) ?_
  refine g_iload_n C 0 dX7_init_62 rfl rfl rfl ?_
  refine g_iconst C (v := 4) dX7_init_63 (by decide) rfl ?_
  refine g_icmp_gt C dX7_init_64 (tgt := 80) (by decide) (pc' := 67) rfl (fun c64 => absurd c64 (by decide)) (fun _ => ?_)
  refine g_aload_n C 1 dX7_init_67 rfl rfl rfl ?_
  refine gf_7_9 C (hO) (v := .ref (a + 1)) rfl dX7_init_68 rfl ?_
  refine g_iload_n C 0 dX7_init_71 rfl rfl rfl ?_
  refine g_iconst C (v := -1) dX7_init_72 (by decide) rfl ?_
  refine g_iast' C (hN3) (j := 2) rfl (by omega) (by decide) dX7_init_73 (pc' := 74) rfl (fun h44 e45 o46 => ?_)
  have hN3 : h44 (a + 1) = some (cI D 5 (upd (upd (upd (fun _ => 0) (0) ((-1))) (1) ((-1))) (2) ((-1)))) := e45
  have hO : h44 (a) = some (.inr (7, [.ref (s), .ref (a + 1), .int (0), .int (0), .ref (a + 2), .ref (a + 10), .ref (a + 18), .ref (a + 26)])) := (o46 _ (by omega)).trans hO
  have hF : ∀ q, (q < a) → h44 q = h q := fun q hq => (o46 q (by omega)).trans (hF q hq)
  have hN10 : GrJ D h44 (a + 2) (fun _ _ => 0) := ⟨(o46 _ (by omega)).trans hN10.1, fun i hi => (o46 _ (by omega)).trans (hN10.2 i hi)⟩
  have hN17 : GrJ D h44 (a + 10) (fun _ _ => 0) := ⟨(o46 _ (by omega)).trans hN17.1, fun i hi => (o46 _ (by omega)).trans (hN17.2 i hi)⟩
  have hN24 : GrJ D h44 (a + 18) (fun _ _ => 0) := ⟨(o46 _ (by omega)).trans hN24.1, fun i hi => (o46 _ (by omega)).trans (hN24.2 i hi)⟩
  have hN31 : GrI D h44 (a + 26) (fun _ _ => 0) := ⟨(o46 _ (by omega)).trans hN31.1, fun i hi => (o46 _ (by omega)).trans (hN31.2 i hi)⟩
  refine g_iinc C (v := 3) 0 ([(2, .int (3)), (0, .ref (a)), (1, .ref (s))]) dX7_init_74 rfl (by decide) (by decide) rfl rfl ?_
  refine g_goto C dX7_init_77 (tgt := 62) (by decide) ?_
  refine g_iload_n C 0 dX7_init_62 rfl rfl rfl ?_
  refine g_iconst C (v := 4) dX7_init_63 (by decide) rfl ?_
  refine g_icmp_gt C dX7_init_64 (tgt := 80) (by decide) (pc' := 67) rfl (fun c64 => absurd c64 (by decide)) (fun _ => ?_)
  refine g_aload_n C 1 dX7_init_67 rfl rfl rfl ?_
  refine gf_7_9 C (hO) (v := .ref (a + 1)) rfl dX7_init_68 rfl ?_
  refine g_iload_n C 0 dX7_init_71 rfl rfl rfl ?_
  refine g_iconst C (v := -1) dX7_init_72 (by decide) rfl ?_
  refine g_iast' C (hN3) (j := 3) rfl (by omega) (by decide) dX7_init_73 (pc' := 74) rfl (fun h47 e48 o49 => ?_)
  have hN3 : h47 (a + 1) = some (cI D 5 (upd (upd (upd (upd (fun _ => 0) (0) ((-1))) (1) ((-1))) (2) ((-1))) (3) ((-1)))) := e48
  have hO : h47 (a) = some (.inr (7, [.ref (s), .ref (a + 1), .int (0), .int (0), .ref (a + 2), .ref (a + 10), .ref (a + 18), .ref (a + 26)])) := (o49 _ (by omega)).trans hO
  have hF : ∀ q, (q < a) → h47 q = h q := fun q hq => (o49 q (by omega)).trans (hF q hq)
  have hN10 : GrJ D h47 (a + 2) (fun _ _ => 0) := ⟨(o49 _ (by omega)).trans hN10.1, fun i hi => (o49 _ (by omega)).trans (hN10.2 i hi)⟩
  have hN17 : GrJ D h47 (a + 10) (fun _ _ => 0) := ⟨(o49 _ (by omega)).trans hN17.1, fun i hi => (o49 _ (by omega)).trans (hN17.2 i hi)⟩
  have hN24 : GrJ D h47 (a + 18) (fun _ _ => 0) := ⟨(o49 _ (by omega)).trans hN24.1, fun i hi => (o49 _ (by omega)).trans (hN24.2 i hi)⟩
  have hN31 : GrI D h47 (a + 26) (fun _ _ => 0) := ⟨(o49 _ (by omega)).trans hN31.1, fun i hi => (o49 _ (by omega)).trans (hN31.2 i hi)⟩
  refine g_iinc C (v := 4) 0 ([(2, .int (4)), (0, .ref (a)), (1, .ref (s))]) dX7_init_74 rfl (by decide) (by decide) rfl rfl ?_
  refine g_goto C dX7_init_77 (tgt := 62) (by decide) ?_
  refine g_iload_n C 0 dX7_init_62 rfl rfl rfl ?_
  refine g_iconst C (v := 4) dX7_init_63 (by decide) rfl ?_
  refine g_icmp_gt C dX7_init_64 (tgt := 80) (by decide) (pc' := 67) rfl (fun c64 => absurd c64 (by decide)) (fun _ => ?_)
  refine g_aload_n C 1 dX7_init_67 rfl rfl rfl ?_
  refine gf_7_9 C (hO) (v := .ref (a + 1)) rfl dX7_init_68 rfl ?_
  refine g_iload_n C 0 dX7_init_71 rfl rfl rfl ?_
  refine g_iconst C (v := -1) dX7_init_72 (by decide) rfl ?_
  refine g_iast' C (hN3) (j := 4) rfl (by omega) (by decide) dX7_init_73 (pc' := 74) rfl (fun h50 e51 o52 => ?_)
  have hN3 : h50 (a + 1) = some (cI D 5 (upd (upd (upd (upd (upd (fun _ => 0) (0) ((-1))) (1) ((-1))) (2) ((-1))) (3) ((-1))) (4) ((-1)))) := e51
  have hO : h50 (a) = some (.inr (7, [.ref (s), .ref (a + 1), .int (0), .int (0), .ref (a + 2), .ref (a + 10), .ref (a + 18), .ref (a + 26)])) := (o52 _ (by omega)).trans hO
  have hF : ∀ q, (q < a) → h50 q = h q := fun q hq => (o52 q (by omega)).trans (hF q hq)
  have hN10 : GrJ D h50 (a + 2) (fun _ _ => 0) := ⟨(o52 _ (by omega)).trans hN10.1, fun i hi => (o52 _ (by omega)).trans (hN10.2 i hi)⟩
  have hN17 : GrJ D h50 (a + 10) (fun _ _ => 0) := ⟨(o52 _ (by omega)).trans hN17.1, fun i hi => (o52 _ (by omega)).trans (hN17.2 i hi)⟩
  have hN24 : GrJ D h50 (a + 18) (fun _ _ => 0) := ⟨(o52 _ (by omega)).trans hN24.1, fun i hi => (o52 _ (by omega)).trans (hN24.2 i hi)⟩
  have hN31 : GrI D h50 (a + 26) (fun _ _ => 0) := ⟨(o52 _ (by omega)).trans hN31.1, fun i hi => (o52 _ (by omega)).trans (hN31.2 i hi)⟩
  refine g_iinc C (v := 5) 0 ([(2, .int (5)), (0, .ref (a)), (1, .ref (s))]) dX7_init_74 rfl (by decide) (by decide) rfl rfl ?_
  refine g_goto C dX7_init_77 (tgt := 62) (by decide) ?_
  refine g_iload_n C 0 dX7_init_62 rfl rfl rfl ?_
  refine g_iconst C (v := 4) dX7_init_63 (by decide) rfl ?_
  refine g_icmp_gt C dX7_init_64 (tgt := 80) (by decide) (pc' := 67) rfl (fun _ => ?_) (fun c64 => absurd (by decide) c64)
  refine g_canon C (hN3) (g := fun _ => -1) (lt5 (by simp [upd]) (by simp [upd]) (by simp [upd]) (by simp [upd]) (by simp [upd])) (fun h53 e54 o55 => ?_)
  have hN3 : h53 (a + 1) = some (cI D 5 (fun _ => -1)) := e54
  have hO : h53 (a) = some (.inr (7, [.ref (s), .ref (a + 1), .int (0), .int (0), .ref (a + 2), .ref (a + 10), .ref (a + 18), .ref (a + 26)])) := (o55 _ (by omega)).trans hO
  have hF : ∀ q, (q < a) → h53 q = h q := fun q hq => (o55 q (by omega)).trans (hF q hq)
  have hN10 : GrJ D h53 (a + 2) (fun _ _ => 0) := ⟨(o55 _ (by omega)).trans hN10.1, fun i hi => (o55 _ (by omega)).trans (hN10.2 i hi)⟩
  have hN17 : GrJ D h53 (a + 10) (fun _ _ => 0) := ⟨(o55 _ (by omega)).trans hN17.1, fun i hi => (o55 _ (by omega)).trans (hN17.2 i hi)⟩
  have hN24 : GrJ D h53 (a + 18) (fun _ _ => 0) := ⟨(o55 _ (by omega)).trans hN24.1, fun i hi => (o55 _ (by omega)).trans (hN24.2 i hi)⟩
  have hN31 : GrI D h53 (a + 26) (fun _ _ => 0) := ⟨(o55 _ (by omega)).trans hN31.1, fun i hi => (o55 _ (by omega)).trans (hN31.2 i hi)⟩
  show qG X 33 117 (a + 34) h53 80 [(2, .int (5)), (0, .ref (a)), (1, .ref (s))] []
  exact ret _ _ _ dX7_init_80 (⟨⟨⟨hO, hN3⟩, _, _, _, _, hN10, hN17, hN24, hN31⟩, hF⟩)
set_option maxHeartbeats 4000000 in
set_option maxRecDepth 100000 in
theorem k_X10_init (l : Launch) (D : va_G) (b : Nat) {h : qH} {a s : Nat} (hO : h a = some (.inr (10, [.null, .null, .null, .int (0), .long (0), .int (0), .int (0), .int (0)]))) : qMc l D b yX10_init cX10_init 3 1 20 1 5 [.ref (a), .ref (s), .ref (a + 1)] h (a + 35) (fun h' => TrAt D h' a s (fun _ => 0) 0 0 0 0 0 ∧ ∀ q, (q < a ∨ (a < q ∧ q < a + 35)) → h' q = h q) := by
  refine q_c (L := [(0, .ref (a)), (1, .ref (s)), (2, .ref (a + 1))]) (own := RX10) (by decide) rfl (Nat.le_of_ble_eq_true rfl) rfl ?_
  intro X C hin ret
  have hF : ∀ q, (q < a ∨ (a < q ∧ q < a + 35)) → h q = h q := fun _ _ => rfl
  refine g_aload_n C 0 dX10_init_0 rfl rfl rfl ?_
  refine g_objInit C hw_10_3 ⟨Nat.le_of_ble_eq_true rfl, Nat.le_of_ble_eq_true rfl⟩ dX10_init_1 rfl ?_
  refine g_aload_n C 0 dX10_init_4 rfl rfl rfl ?_
  refine g_iconst C (v := 5) dX10_init_5 (by decide) rfl ?_
  refine g_newI C (N := 5) rfl (by decide) (AW_m 85 (by decide +kernel) rfl) ⟨Nat.le_of_ble_eq_true rfl, Nat.le_of_ble_eq_true rfl⟩ dX10_init_6 (pc' := 8) rfl (fun h1 e2 o3 => ?_)
  have hN3 : h1 (a + 35) = some (cI D 5 (fun _ => 0)) := e2
  have hO : h1 (a) = some (.inr (10, [.null, .null, .null, .int (0), .long (0), .int (0), .int (0), .int (0)])) := (o3 _ (by omega)).trans hO
  have hF : ∀ q, (q < a ∨ (a < q ∧ q < a + 35)) → h1 q = h q := fun q hq => (o3 q (by omega)).trans (hF q hq)
  show qG X 1 5 (a + 36) h1 8 [(0, .ref (a)), (1, .ref (s)), (2, .ref (a + 1))] [.ref (a + 35), .ref (a)]
  refine pf_10_9 C hin (hO) (v := .ref (a + 35)) rfl rfl (Nat.le_of_ble_eq_true rfl) dX10_init_8 (pc' := 11) rfl (fun h4 e5 o6 => ?_)
  have hO : h4 (a) = some (.inr (10, [.null, .null, .ref (a + 35), .int (0), .long (0), .int (0), .int (0), .int (0)])) := e5
  have hF : ∀ q, (q < a ∨ (a < q ∧ q < a + 35)) → h4 q = h q := fun q hq => (o6 q (by omega)).trans (hF q hq)
  have hN3 : h4 (a + 35) = some (cI D 5 (fun _ => 0)) := (o6 _ (by omega)).trans hN3
  refine g_aload_n C 0 dX10_init_11 rfl rfl rfl ?_
  refine g_aload_n C 1 dX10_init_12 rfl rfl rfl ?_
  refine pf_10_15 C hin (hO) (v := .ref (s)) rfl rfl (Nat.le_of_ble_eq_true rfl) dX10_init_13 (pc' := 16) rfl (fun h7 e8 o9 => ?_)
  have hO : h7 (a) = some (.inr (10, [.ref (s), .null, .ref (a + 35), .int (0), .long (0), .int (0), .int (0), .int (0)])) := e8
  have hF : ∀ q, (q < a ∨ (a < q ∧ q < a + 35)) → h7 q = h q := fun q hq => (o9 q (by omega)).trans (hF q hq)
  have hN3 : h7 (a + 35) = some (cI D 5 (fun _ => 0)) := (o9 _ (by omega)).trans hN3
  refine g_aload_n C 0 dX10_init_16 rfl rfl rfl ?_
  refine g_aload_n C 2 dX10_init_17 rfl rfl rfl ?_
  refine pf_10_19 C hin (hO) (v := .ref (a + 1)) rfl rfl (Nat.le_of_ble_eq_true rfl) dX10_init_18 (pc' := 21) rfl (fun h10 e11 o12 => ?_)
  have hO : h10 (a) = some (.inr (10, [.ref (s), .ref (a + 1), .ref (a + 35), .int (0), .long (0), .int (0), .int (0), .int (0)])) := e11
  have hF : ∀ q, (q < a ∨ (a < q ∧ q < a + 35)) → h10 q = h q := fun q hq => (o12 q (by omega)).trans (hF q hq)
  have hN3 : h10 (a + 35) = some (cI D 5 (fun _ => 0)) := (o12 _ (by omega)).trans hN3
  exact ret _ _ _ dX10_init_21 (⟨⟨hO, hN3⟩, hF⟩)
set_option maxHeartbeats 4000000 in
set_option maxRecDepth 100000 in
theorem k_X3_init (l : Launch) (D : va_G) (b : Nat) {h : qH} {a : Nat} (hO : h a = some (.inr (3, [.null, .null, .null, .int (0), .int (0)]))) : qMc l D b yX3_init cX3_init 3 1 20 1 4 [.ref (a), .ref (a + 1), .ref (a + 35)] h (a + 38) (fun h' => ImAt D h' a (fun _ => 0) 0 0 ∧ ∀ q, (q < a ∨ (a < q ∧ q < a + 38)) → h' q = h q) := by
  refine q_c (L := [(0, .ref (a)), (1, .ref (a + 1)), (2, .ref (a + 35))]) (own := RX3) (by decide) rfl (Nat.le_of_ble_eq_true rfl) rfl ?_
  intro X C hin ret
  have hF : ∀ q, (q < a ∨ (a < q ∧ q < a + 38)) → h q = h q := fun _ _ => rfl
  refine g_aload_n C 0 dX3_init_0 rfl rfl rfl ?_
  refine g_objInit C hw_3_3 ⟨Nat.le_of_ble_eq_true rfl, Nat.le_of_ble_eq_true rfl⟩ dX3_init_1 rfl ?_
  refine g_aload_n C 0 dX3_init_4 rfl rfl rfl ?_
  refine g_iconst C (v := 4) dX3_init_5 (by decide) rfl ?_
  refine g_newI C (N := 4) rfl (by decide) (AW_m 85 (by decide +kernel) rfl) ⟨Nat.le_of_ble_eq_true rfl, Nat.le_of_ble_eq_true rfl⟩ dX3_init_6 (pc' := 8) rfl (fun h1 e2 o3 => ?_)
  have hN3 : h1 (a + 38) = some (cI D 4 (fun _ => 0)) := e2
  have hO : h1 (a) = some (.inr (3, [.null, .null, .null, .int (0), .int (0)])) := (o3 _ (by omega)).trans hO
  have hF : ∀ q, (q < a ∨ (a < q ∧ q < a + 38)) → h1 q = h q := fun q hq => (o3 q (by omega)).trans (hF q hq)
  show qG X 1 4 (a + 39) h1 8 [(0, .ref (a)), (1, .ref (a + 1)), (2, .ref (a + 35))] [.ref (a + 38), .ref (a)]
  refine pf_3_9 C hin (hO) (v := .ref (a + 38)) rfl rfl (Nat.le_of_ble_eq_true rfl) dX3_init_8 (pc' := 11) rfl (fun h4 e5 o6 => ?_)
  have hO : h4 (a) = some (.inr (3, [.null, .null, .ref (a + 38), .int (0), .int (0)])) := e5
  have hF : ∀ q, (q < a ∨ (a < q ∧ q < a + 38)) → h4 q = h q := fun q hq => (o6 q (by omega)).trans (hF q hq)
  have hN3 : h4 (a + 38) = some (cI D 4 (fun _ => 0)) := (o6 _ (by omega)).trans hN3
  refine g_aload_n C 0 dX3_init_11 rfl rfl rfl ?_
  refine g_aload_n C 1 dX3_init_12 rfl rfl rfl ?_
  refine pf_3_15 C hin (hO) (v := .ref (a + 1)) rfl rfl (Nat.le_of_ble_eq_true rfl) dX3_init_13 (pc' := 16) rfl (fun h7 e8 o9 => ?_)
  have hO : h7 (a) = some (.inr (3, [.ref (a + 1), .null, .ref (a + 38), .int (0), .int (0)])) := e8
  have hF : ∀ q, (q < a ∨ (a < q ∧ q < a + 38)) → h7 q = h q := fun q hq => (o9 q (by omega)).trans (hF q hq)
  have hN3 : h7 (a + 38) = some (cI D 4 (fun _ => 0)) := (o9 _ (by omega)).trans hN3
  refine g_aload_n C 0 dX3_init_16 rfl rfl rfl ?_
  refine g_aload_n C 2 dX3_init_17 rfl rfl rfl ?_
  refine pf_3_19 C hin (hO) (v := .ref (a + 35)) rfl rfl (Nat.le_of_ble_eq_true rfl) dX3_init_18 (pc' := 21) rfl (fun h10 e11 o12 => ?_)
  have hO : h10 (a) = some (.inr (3, [.ref (a + 1), .ref (a + 35), .ref (a + 38), .int (0), .int (0)])) := e11
  have hF : ∀ q, (q < a ∨ (a < q ∧ q < a + 38)) → h10 q = h q := fun q hq => (o12 q (by omega)).trans (hF q hq)
  have hN3 : h10 (a + 38) = some (cI D 4 (fun _ => 0)) := (o12 _ (by omega)).trans hN3
  exact ret _ _ _ dX3_init_21 (⟨⟨hO, hN3⟩, hF⟩)
set_option maxHeartbeats 4000000 in
set_option maxRecDepth 100000 in
theorem k1_X4_init (l : Launch) (D : va_G) (b z : Nat) {h : qH} {a : Nat} (c t : Int32) (hO : h a = some (.inr (1, [.int (0), .int (0), .int (0)]))) : qMc l D b yX4_init cX4_init 3 1 20 0 0 [.ref (a), .int (c), .int (t)] h (z) (fun h' => KpAt h' a 1 c t 0 ∧ ∀ q, (q ≠ a) → h' q = h q) := by
  refine q_c (L := [(0, .ref (a)), (1, .int (c)), (2, .int (t))]) (own := RX4) (by decide) rfl (Nat.le_of_ble_eq_true rfl) rfl ?_
  intro X C hin ret
  have hF : ∀ q, (q ≠ a) → h q = h q := fun _ _ => rfl
  refine g_aload_n C 0 dX4_init_0 rfl rfl rfl ?_
  refine g_objInit C hw_4_3 ⟨Nat.le_of_ble_eq_true rfl, Nat.le_of_ble_eq_true rfl⟩ dX4_init_1 rfl ?_
  refine g_aload_n C 0 dX4_init_4 rfl rfl rfl ?_
  refine g_iload_n C 1 dX4_init_5 rfl rfl rfl ?_
  refine pf_4_9_1 C hin (hO) (v := .int (c)) rfl rfl (Nat.le_of_ble_eq_true rfl) dX4_init_6 (pc' := 9) rfl (fun h1 e2 o3 => ?_)
  have hO : h1 (a) = some (.inr (1, [.int (c), .int (0), .int (0)])) := e2
  have hF : ∀ q, (q ≠ a) → h1 q = h q := fun q hq => (o3 q (by omega)).trans (hF q hq)
  refine g_aload_n C 0 dX4_init_9 rfl rfl rfl ?_
  refine g_iload_n C 2 dX4_init_10 rfl rfl rfl ?_
  refine pf_4_15_1 C hin (hO) (v := .int (t)) rfl rfl (Nat.le_of_ble_eq_true rfl) dX4_init_11 (pc' := 14) rfl (fun h4 e5 o6 => ?_)
  have hO : h4 (a) = some (.inr (1, [.int (c), .int (t), .int (0)])) := e5
  have hF : ∀ q, (q ≠ a) → h4 q = h q := fun q hq => (o6 q (by omega)).trans (hF q hq)
  exact ret _ _ _ dX4_init_14 (⟨hO, hF⟩)
set_option maxHeartbeats 4000000 in
set_option maxRecDepth 100000 in
theorem k2_X4_init (l : Launch) (D : va_G) (b z : Nat) {h : qH} {a : Nat} (c t : Int32) (hO : h a = some (.inr (2, [.int (0), .int (0), .int (0)]))) : qMc l D b yX4_init cX4_init 3 1 20 0 0 [.ref (a), .int (c), .int (t)] h (z) (fun h' => KpAt h' a 2 c t 0 ∧ ∀ q, (q ≠ a) → h' q = h q) := by
  refine q_c (L := [(0, .ref (a)), (1, .int (c)), (2, .int (t))]) (own := RX4) (by decide) rfl (Nat.le_of_ble_eq_true rfl) rfl ?_
  intro X C hin ret
  have hF : ∀ q, (q ≠ a) → h q = h q := fun _ _ => rfl
  refine g_aload_n C 0 dX4_init_0 rfl rfl rfl ?_
  refine g_objInit C hw_4_3 ⟨Nat.le_of_ble_eq_true rfl, Nat.le_of_ble_eq_true rfl⟩ dX4_init_1 rfl ?_
  refine g_aload_n C 0 dX4_init_4 rfl rfl rfl ?_
  refine g_iload_n C 1 dX4_init_5 rfl rfl rfl ?_
  refine pf_4_9_2 C hin (hO) (v := .int (c)) rfl rfl (Nat.le_of_ble_eq_true rfl) dX4_init_6 (pc' := 9) rfl (fun h1 e2 o3 => ?_)
  have hO : h1 (a) = some (.inr (2, [.int (c), .int (0), .int (0)])) := e2
  have hF : ∀ q, (q ≠ a) → h1 q = h q := fun q hq => (o3 q (by omega)).trans (hF q hq)
  refine g_aload_n C 0 dX4_init_9 rfl rfl rfl ?_
  refine g_iload_n C 2 dX4_init_10 rfl rfl rfl ?_
  refine pf_4_15_2 C hin (hO) (v := .int (t)) rfl rfl (Nat.le_of_ble_eq_true rfl) dX4_init_11 (pc' := 14) rfl (fun h4 e5 o6 => ?_)
  have hO : h4 (a) = some (.inr (2, [.int (c), .int (t), .int (0)])) := e5
  have hF : ∀ q, (q ≠ a) → h4 q = h q := fun q hq => (o6 q (by omega)).trans (hF q hq)
  exact ret _ _ _ dX4_init_14 (⟨hO, hF⟩)
set_option maxHeartbeats 4000000 in
set_option maxRecDepth 100000 in
theorem k4_X4_init (l : Launch) (D : va_G) (b z : Nat) {h : qH} {a : Nat} (c t : Int32) (hO : h a = some (.inr (4, [.int (0), .int (0), .int (0)]))) : qMc l D b yX4_init cX4_init 3 1 20 0 0 [.ref (a), .int (c), .int (t)] h (z) (fun h' => KpAt h' a 4 c t 0 ∧ ∀ q, (q ≠ a) → h' q = h q) := by
  refine q_c (L := [(0, .ref (a)), (1, .int (c)), (2, .int (t))]) (own := RX4) (by decide) rfl (Nat.le_of_ble_eq_true rfl) rfl ?_
  intro X C hin ret
  have hF : ∀ q, (q ≠ a) → h q = h q := fun _ _ => rfl
  refine g_aload_n C 0 dX4_init_0 rfl rfl rfl ?_
  refine g_objInit C hw_4_3 ⟨Nat.le_of_ble_eq_true rfl, Nat.le_of_ble_eq_true rfl⟩ dX4_init_1 rfl ?_
  refine g_aload_n C 0 dX4_init_4 rfl rfl rfl ?_
  refine g_iload_n C 1 dX4_init_5 rfl rfl rfl ?_
  refine pf_4_9_4 C hin (hO) (v := .int (c)) rfl rfl (Nat.le_of_ble_eq_true rfl) dX4_init_6 (pc' := 9) rfl (fun h1 e2 o3 => ?_)
  have hO : h1 (a) = some (.inr (4, [.int (c), .int (0), .int (0)])) := e2
  have hF : ∀ q, (q ≠ a) → h1 q = h q := fun q hq => (o3 q (by omega)).trans (hF q hq)
  refine g_aload_n C 0 dX4_init_9 rfl rfl rfl ?_
  refine g_iload_n C 2 dX4_init_10 rfl rfl rfl ?_
  refine pf_4_15_4 C hin (hO) (v := .int (t)) rfl rfl (Nat.le_of_ble_eq_true rfl) dX4_init_11 (pc' := 14) rfl (fun h4 e5 o6 => ?_)
  have hO : h4 (a) = some (.inr (4, [.int (c), .int (t), .int (0)])) := e5
  have hF : ∀ q, (q ≠ a) → h4 q = h q := fun q hq => (o6 q (by omega)).trans (hF q hq)
  exact ret _ _ _ dX4_init_14 (⟨hO, hF⟩)
set_option maxHeartbeats 4000000 in
set_option maxRecDepth 100000 in
theorem k5_X4_init (l : Launch) (D : va_G) (b z : Nat) {h : qH} {a : Nat} (c t : Int32) (hO : h a = some (.inr (5, [.int (0), .int (0), .int (0)]))) : qMc l D b yX4_init cX4_init 3 1 20 0 0 [.ref (a), .int (c), .int (t)] h (z) (fun h' => KpAt h' a 5 c t 0 ∧ ∀ q, (q ≠ a) → h' q = h q) := by
  refine q_c (L := [(0, .ref (a)), (1, .int (c)), (2, .int (t))]) (own := RX4) (by decide) rfl (Nat.le_of_ble_eq_true rfl) rfl ?_
  intro X C hin ret
  have hF : ∀ q, (q ≠ a) → h q = h q := fun _ _ => rfl
  refine g_aload_n C 0 dX4_init_0 rfl rfl rfl ?_
  refine g_objInit C hw_4_3 ⟨Nat.le_of_ble_eq_true rfl, Nat.le_of_ble_eq_true rfl⟩ dX4_init_1 rfl ?_
  refine g_aload_n C 0 dX4_init_4 rfl rfl rfl ?_
  refine g_iload_n C 1 dX4_init_5 rfl rfl rfl ?_
  refine pf_4_9_5 C hin (hO) (v := .int (c)) rfl rfl (Nat.le_of_ble_eq_true rfl) dX4_init_6 (pc' := 9) rfl (fun h1 e2 o3 => ?_)
  have hO : h1 (a) = some (.inr (5, [.int (c), .int (0), .int (0)])) := e2
  have hF : ∀ q, (q ≠ a) → h1 q = h q := fun q hq => (o3 q (by omega)).trans (hF q hq)
  refine g_aload_n C 0 dX4_init_9 rfl rfl rfl ?_
  refine g_iload_n C 2 dX4_init_10 rfl rfl rfl ?_
  refine pf_4_15_5 C hin (hO) (v := .int (t)) rfl rfl (Nat.le_of_ble_eq_true rfl) dX4_init_11 (pc' := 14) rfl (fun h4 e5 o6 => ?_)
  have hO : h4 (a) = some (.inr (5, [.int (c), .int (t), .int (0)])) := e5
  have hF : ∀ q, (q ≠ a) → h4 q = h q := fun q hq => (o6 q (by omega)).trans (hF q hq)
  exact ret _ _ _ dX4_init_14 (⟨hO, hF⟩)
set_option maxHeartbeats 4000000 in
set_option maxRecDepth 100000 in
theorem k6_X4_init (l : Launch) (D : va_G) (b z : Nat) {h : qH} {a : Nat} (c t : Int32) (hO : h a = some (.inr (6, [.int (0), .int (0), .int (0)]))) : qMc l D b yX4_init cX4_init 3 1 20 0 0 [.ref (a), .int (c), .int (t)] h (z) (fun h' => KpAt h' a 6 c t 0 ∧ ∀ q, (q ≠ a) → h' q = h q) := by
  refine q_c (L := [(0, .ref (a)), (1, .int (c)), (2, .int (t))]) (own := RX4) (by decide) rfl (Nat.le_of_ble_eq_true rfl) rfl ?_
  intro X C hin ret
  have hF : ∀ q, (q ≠ a) → h q = h q := fun _ _ => rfl
  refine g_aload_n C 0 dX4_init_0 rfl rfl rfl ?_
  refine g_objInit C hw_4_3 ⟨Nat.le_of_ble_eq_true rfl, Nat.le_of_ble_eq_true rfl⟩ dX4_init_1 rfl ?_
  refine g_aload_n C 0 dX4_init_4 rfl rfl rfl ?_
  refine g_iload_n C 1 dX4_init_5 rfl rfl rfl ?_
  refine pf_4_9_6 C hin (hO) (v := .int (c)) rfl rfl (Nat.le_of_ble_eq_true rfl) dX4_init_6 (pc' := 9) rfl (fun h1 e2 o3 => ?_)
  have hO : h1 (a) = some (.inr (6, [.int (c), .int (0), .int (0)])) := e2
  have hF : ∀ q, (q ≠ a) → h1 q = h q := fun q hq => (o3 q (by omega)).trans (hF q hq)
  refine g_aload_n C 0 dX4_init_9 rfl rfl rfl ?_
  refine g_iload_n C 2 dX4_init_10 rfl rfl rfl ?_
  refine pf_4_15_6 C hin (hO) (v := .int (t)) rfl rfl (Nat.le_of_ble_eq_true rfl) dX4_init_11 (pc' := 14) rfl (fun h4 e5 o6 => ?_)
  have hO : h4 (a) = some (.inr (6, [.int (c), .int (t), .int (0)])) := e5
  have hF : ∀ q, (q ≠ a) → h4 q = h q := fun q hq => (o6 q (by omega)).trans (hF q hq)
  exact ret _ _ _ dX4_init_14 (⟨hO, hF⟩)
set_option maxHeartbeats 4000000 in
set_option maxRecDepth 100000 in
theorem k2_X2_init (l : Launch) (D : va_G) (b z : Nat) {h : qH} {a : Nat} (c t : Int32) (hO : h a = some (.inr (2, [.int (0), .int (0), .int (0)]))) : qMc l D b yX2_init cX2_init 3 2 42 0 0 [.ref (a), .int (c), .int (t)] h (z) (fun h' => KpAt h' a 2 c t 0 ∧ ∀ q, (q ≠ a) → h' q = h q) := by
  refine q_c (L := [(0, .ref (a)), (1, .int (c)), (2, .int (t))]) (own := RX2) (by decide) rfl (Nat.le_of_ble_eq_true rfl) rfl ?_
  intro X C hin ret
  have hF : ∀ q, (q ≠ a) → h q = h q := fun _ _ => rfl
  refine g_aload_n C 0 dX2_init_0 rfl rfl rfl ?_
  refine g_iload_n C 1 dX2_init_1 rfl rfl rfl ?_
  refine g_iload_n C 2 dX2_init_2 rfl rfl rfl ?_
  refine g_callIc C (As := [.int (c), .int (t)]) (k2_X4_init l D b z c t hO) hw_2_3 (by decide) rfl rfl (Nat.le_of_ble_eq_true rfl) ⟨Nat.le_of_ble_eq_true rfl, Nat.le_of_ble_eq_true rfl⟩ dX2_init_3 (pc' := 6) rfl ?_
  rintro h1 ⟨hO, fr⟩
  have hF : ∀ q, (q ≠ a) → h1 q = h q := fun q hq => (fr q (by omega)).trans (hF q hq)
  show qG X 0 0 (z) h1 6 [(0, .ref (a)), (1, .int (c)), (2, .int (t))] []
  exact ret _ _ _ dX2_init_6 (⟨hO, hF⟩)
set_option maxHeartbeats 4000000 in
set_option maxRecDepth 100000 in
theorem k6_X6_init (l : Launch) (D : va_G) (b z : Nat) {h : qH} {a : Nat} (c t : Int32) (hO : h a = some (.inr (6, [.int (0), .int (0), .int (0)]))) : qMc l D b yX6_init cX6_init 3 2 42 0 0 [.ref (a), .int (c), .int (t)] h (z) (fun h' => KpAt h' a 6 c t 0 ∧ ∀ q, (q ≠ a) → h' q = h q) := by
  refine q_c (L := [(0, .ref (a)), (1, .int (c)), (2, .int (t))]) (own := RX6) (by decide) rfl (Nat.le_of_ble_eq_true rfl) rfl ?_
  intro X C hin ret
  have hF : ∀ q, (q ≠ a) → h q = h q := fun _ _ => rfl
  refine g_aload_n C 0 dX6_init_0 rfl rfl rfl ?_
  refine g_iload_n C 1 dX6_init_1 rfl rfl rfl ?_
  refine g_iload_n C 2 dX6_init_2 rfl rfl rfl ?_
  refine g_callIc C (As := [.int (c), .int (t)]) (k6_X4_init l D b z c t hO) hw_6_3 (by decide) rfl rfl (Nat.le_of_ble_eq_true rfl) ⟨Nat.le_of_ble_eq_true rfl, Nat.le_of_ble_eq_true rfl⟩ dX6_init_3 (pc' := 6) rfl ?_
  rintro h1 ⟨hO, fr⟩
  have hF : ∀ q, (q ≠ a) → h1 q = h q := fun q hq => (fr q (by omega)).trans (hF q hq)
  show qG X 0 0 (z) h1 6 [(0, .ref (a)), (1, .int (c)), (2, .int (t))] []
  exact ret _ _ _ dX6_init_6 (⟨hO, hF⟩)
set_option maxHeartbeats 4000000 in
set_option maxRecDepth 100000 in
theorem k1_X1_init (l : Launch) (D : va_G) (b z : Nat) {h : qH} {a : Nat} (c t : Int32) (hO : h a = some (.inr (1, [.int (0), .int (0), .int (0)]))) : qMc l D b yX1_init cX1_init 3 2 42 0 0 [.ref (a), .int (c), .int (t)] h (z) (fun h' => KpAt h' a 1 c t 0 ∧ ∀ q, (q ≠ a) → h' q = h q) := by
  refine q_c (L := [(0, .ref (a)), (1, .int (c)), (2, .int (t))]) (own := RX1) (by decide) rfl (Nat.le_of_ble_eq_true rfl) rfl ?_
  intro X C hin ret
  have hF : ∀ q, (q ≠ a) → h q = h q := fun _ _ => rfl
  refine g_aload_n C 0 dX1_init_0 rfl rfl rfl ?_
  refine g_iload_n C 1 dX1_init_1 rfl rfl rfl ?_
  refine g_iload_n C 2 dX1_init_2 rfl rfl rfl ?_
  refine g_callIc C (As := [.int (c), .int (t)]) (k1_X4_init l D b z c t hO) hw_1_1 (by decide) rfl rfl (Nat.le_of_ble_eq_true rfl) ⟨Nat.le_of_ble_eq_true rfl, Nat.le_of_ble_eq_true rfl⟩ dX1_init_3 (pc' := 6) rfl ?_
  rintro h1 ⟨hO, fr⟩
  have hF : ∀ q, (q ≠ a) → h1 q = h q := fun q hq => (fr q (by omega)).trans (hF q hq)
  show qG X 0 0 (z) h1 6 [(0, .ref (a)), (1, .int (c)), (2, .int (t))] []
  exact ret _ _ _ dX1_init_6 (⟨hO, hF⟩)
set_option maxHeartbeats 4000000 in
set_option maxRecDepth 100000 in
theorem k5_X1_init (l : Launch) (D : va_G) (b z : Nat) {h : qH} {a : Nat} (c t : Int32) (hO : h a = some (.inr (5, [.int (0), .int (0), .int (0)]))) : qMc l D b yX1_init cX1_init 3 2 42 0 0 [.ref (a), .int (c), .int (t)] h (z) (fun h' => KpAt h' a 5 c t 0 ∧ ∀ q, (q ≠ a) → h' q = h q) := by
  refine q_c (L := [(0, .ref (a)), (1, .int (c)), (2, .int (t))]) (own := RX1) (by decide) rfl (Nat.le_of_ble_eq_true rfl) rfl ?_
  intro X C hin ret
  have hF : ∀ q, (q ≠ a) → h q = h q := fun _ _ => rfl
  refine g_aload_n C 0 dX1_init_0 rfl rfl rfl ?_
  refine g_iload_n C 1 dX1_init_1 rfl rfl rfl ?_
  refine g_iload_n C 2 dX1_init_2 rfl rfl rfl ?_
  refine g_callIc C (As := [.int (c), .int (t)]) (k5_X4_init l D b z c t hO) hw_1_1 (by decide) rfl rfl (Nat.le_of_ble_eq_true rfl) ⟨Nat.le_of_ble_eq_true rfl, Nat.le_of_ble_eq_true rfl⟩ dX1_init_3 (pc' := 6) rfl ?_
  rintro h1 ⟨hO, fr⟩
  have hF : ∀ q, (q ≠ a) → h1 q = h q := fun q hq => (fr q (by omega)).trans (hF q hq)
  show qG X 0 0 (z) h1 6 [(0, .ref (a)), (1, .int (c)), (2, .int (t))] []
  exact ret _ _ _ dX1_init_6 (⟨hO, hF⟩)
set_option maxHeartbeats 4000000 in
set_option maxRecDepth 100000 in
theorem k5_X5_init (l : Launch) (D : va_G) (b z : Nat) {h : qH} {a : Nat} (c t : Int32) (hO : h a = some (.inr (5, [.int (0), .int (0), .int (0)]))) : qMc l D b yX5_init cX5_init 3 3 64 0 0 [.ref (a), .int (c), .int (t)] h (z) (fun h' => KpAt h' a 5 c t 0 ∧ ∀ q, (q ≠ a) → h' q = h q) := by
  refine q_c (L := [(0, .ref (a)), (1, .int (c)), (2, .int (t))]) (own := RX5) (by decide) rfl (Nat.le_of_ble_eq_true rfl) rfl ?_
  intro X C hin ret
  have hF : ∀ q, (q ≠ a) → h q = h q := fun _ _ => rfl
  refine g_aload_n C 0 dX5_init_0 rfl rfl rfl ?_
  refine g_iload_n C 1 dX5_init_1 rfl rfl rfl ?_
  refine g_iload_n C 2 dX5_init_2 rfl rfl rfl ?_
  refine g_callIc C (As := [.int (c), .int (t)]) (k5_X1_init l D b z c t hO) hw_5_3 (by decide) rfl rfl (Nat.le_of_ble_eq_true rfl) ⟨Nat.le_of_ble_eq_true rfl, Nat.le_of_ble_eq_true rfl⟩ dX5_init_3 (pc' := 6) rfl ?_
  rintro h1 ⟨hO, fr⟩
  have hF : ∀ q, (q ≠ a) → h1 q = h q := fun q hq => (fr q (by omega)).trans (hF q hq)
  show qG X 0 0 (z) h1 6 [(0, .ref (a)), (1, .int (c)), (2, .int (t))] []
  exact ret _ _ _ dX5_init_6 (⟨hO, hF⟩)

/-! a new object -/
def sg0 : sg := (fun _ => 0, fun _ => 0, fun _ _ => 0, fun k => if k = 7 then (fun _ => -1) else (fun _ => 0))
set_option maxHeartbeats 4000000 in
set_option maxRecDepth 100000 in
theorem k_X11_init (l : Launch) (D : va_G) (b : Nat) {h : qH} {x : Nat} (hO : h x = some (.inr (11, [.null, .null, .null, .null, .null, .null, .null, .int (0)]))) : qMc l D b yX11_init cX11_init 2 2 42 117 485 [.ref (x)] h (x + 1) (fun h' => Cls D h' x sg0 ∧ ∀ q, q < x → h' q = h q) := by
  refine q_c (L := [(0, .ref (x))]) (own := RX11) (by decide) rfl (Nat.le_of_ble_eq_true rfl) rfl ?_
  intro X C hin ret
  have hF : ∀ q, (q < x) → h q = h q := fun _ _ => rfl
  refine g_aload_n C 0 dX11_init_0 rfl rfl rfl ?_
  refine g_objInit C hw_11_1 ⟨Nat.le_of_ble_eq_true rfl, Nat.le_of_ble_eq_true rfl⟩ dX11_init_1 rfl ?_
  refine g_new C (ci := 9) tyX9 tyX9_ok hin_9 (fs := [.null, .int (0), .int (0)]) ⟨(AW_m 64 (by decide +kernel) rfl), (AW_m 65 (by decide +kernel) rfl), (AW_m 43 (by decide +kernel) rfl)⟩ rfl (fun j hj => match j, hj with | 0, _ => rfl | 1, _ => rfl | 2, _ => rfl | (m + 3), h => absurd h (by omega)) ⟨Nat.le_of_ble_eq_true rfl, Nat.le_of_ble_eq_true rfl⟩ dX11_init_4 (pc' := 7) rfl (fun h1 e2 o3 => ?_)
  have hN3 : h1 (x + 1) = some (.inr (9, [.null, .int (0), .int (0)])) := e2
  have hO : h1 (x) = some (.inr (11, [.null, .null, .null, .null, .null, .null, .null, .int (0)])) := (o3 _ (by omega)).trans hO
  have hF : ∀ q, (q < x) → h1 q = h q := fun q hq => (o3 q (by omega)).trans (hF q hq)
  show qG X 1 3 (x + 2) h1 7 [(0, .ref (x))] [.ref (x + 1)]
  refine g_dup C rfl dX11_init_7 rfl ?_
  refine g_callINc C (As := []) (k_X9_init l D b hN3) hw_11_9 (by decide) rfl rfl (Nat.le_of_ble_eq_true rfl) ⟨Nat.le_of_ble_eq_true rfl, Nat.le_of_ble_eq_true rfl⟩ dX11_init_8 (pc' := 11) rfl ?_
  rintro h4 ⟨hSt, fr⟩
  have hO : h4 (x) = some (.inr (11, [.null, .null, .null, .null, .null, .null, .null, .int (0)])) := (fr _ (by omega)).trans hO
  have hF : ∀ q, (q < x) → h4 q = h q := fun q hq => (fr q (by omega)).trans (hF q hq)
  show qG X 2 12 (x + 3) h4 11 [(0, .ref (x))] [.ref (x + 1)]
  refine g_astore_n C ([(1, .ref (x + 1)), (0, .ref (x))]) dX11_init_11 rfl (by decide) rfl rfl ?_
  refine g_aload_n C 1 dX11_init_12 rfl rfl rfl ?_
  refine g_new C (ci := 8) tyX8 tyX8_ok hin_8 (fs := [.null, .int (0)]) ⟨(AW_m 86 (by decide +kernel) rfl), (AW_m 87 (by decide +kernel) rfl), (AW_m 44 (by decide +kernel) rfl)⟩ rfl (fun j hj => match j, hj with | 0, _ => rfl | 1, _ => rfl | (m + 2), h => absurd h (by omega)) ⟨Nat.le_of_ble_eq_true rfl, Nat.le_of_ble_eq_true rfl⟩ dX11_init_13 (pc' := 16) rfl (fun h5 e6 o7 => ?_)
  have hN7 : h5 (x + 3) = some (.inr (8, [.null, .int (0)])) := e6
  have hO : h5 (x) = some (.inr (11, [.null, .null, .null, .null, .null, .null, .null, .int (0)])) := (o7 _ (by omega)).trans hO
  have hF : ∀ q, (q < x) → h5 q = h q := fun q hq => (o7 q (by omega)).trans (hF q hq)
  have hSt : StAt D h5 (x + 1) (fun _ => 0) (0) (0) := ⟨(o7 _ (by omega)).trans hSt.1, (o7 _ (by omega)).trans hSt.2⟩
  show qG X 3 14 (x + 4) h5 16 [(1, .ref (x + 1)), (0, .ref (x))] [.ref (x + 3), .ref (x)]
  refine g_dup C rfl dX11_init_16 rfl ?_
  refine g_callINc C (As := []) (k_X8_init l D b hN7) hw_11_12 (by decide) rfl rfl (Nat.le_of_ble_eq_true rfl) ⟨Nat.le_of_ble_eq_true rfl, Nat.le_of_ble_eq_true rfl⟩ dX11_init_17 (pc' := 20) rfl ?_
  rintro h8 ⟨hPg, fr⟩
  have hO : h8 (x) = some (.inr (11, [.null, .null, .null, .null, .null, .null, .null, .int (0)])) := (fr _ (by omega)).trans hO
  have hF : ∀ q, (q < x) → h8 q = h q := fun q hq => (fr q (by omega)).trans (hF q hq)
  have hSt : StAt D h8 (x + 1) (fun _ => 0) (0) (0) := ⟨(fr _ (by omega)).trans hSt.1, (fr _ (by omega)).trans hSt.2⟩
  show qG X 4 30 (x + 5) h8 20 [(1, .ref (x + 1)), (0, .ref (x))] [.ref (x + 3), .ref (x)]
  refine pf_11_13 C hin (hO) (v := .ref (x + 3)) rfl rfl (Nat.le_of_ble_eq_true rfl) dX11_init_20 (pc' := 23) rfl (fun h9 e10 o11 => ?_)
  have hO : h9 (x) = some (.inr (11, [.ref (x + 3), .null, .null, .null, .null, .null, .null, .int (0)])) := e10
  have hF : ∀ q, (q < x) → h9 q = h q := fun q hq => (o11 q (by omega)).trans (hF q hq)
  have hSt : StAt D h9 (x + 1) (fun _ => 0) (0) (0) := ⟨(o11 _ (by omega)).trans hSt.1, (o11 _ (by omega)).trans hSt.2⟩
  have hPg : PgAt D h9 (x + 3) (fun _ => 0) (0) := ⟨(o11 _ (by omega)).trans hPg.1, (o11 _ (by omega)).trans hPg.2⟩
  refine g_aload_n C 1 dX11_init_23 rfl rfl rfl ?_
  refine g_aload_n C 0 dX11_init_24 rfl rfl rfl ?_
  refine pf_11_19 C hin (hO) (v := .ref (x + 1)) rfl rfl (Nat.le_of_ble_eq_true rfl) dX11_init_25 (pc' := 28) rfl (fun h12 e13 o14 => ?_)
  have hO : h12 (x) = some (.inr (11, [.ref (x + 3), .ref (x + 1), .null, .null, .null, .null, .null, .int (0)])) := e13
  have hF : ∀ q, (q < x) → h12 q = h q := fun q hq => (o14 q (by omega)).trans (hF q hq)
  have hSt : StAt D h12 (x + 1) (fun _ => 0) (0) (0) := ⟨(o14 _ (by omega)).trans hSt.1, (o14 _ (by omega)).trans hSt.2⟩
  have hPg : PgAt D h12 (x + 3) (fun _ => 0) (0) := ⟨(o14 _ (by omega)).trans hPg.1, (o14 _ (by omega)).trans hPg.2⟩
  refine g_aload_n C 1 dX11_init_28 rfl rfl rfl ?_
  refine g_new C (ci := 7) tyX7 tyX7_ok hin_7 (fs := [.null, .null, .int (0), .int (0), .null, .null, .null, .null]) ⟨(AW_m 100 (by decide +kernel) rfl), (AW_m 101 (by decide +kernel) rfl), (AW_m 45 (by decide +kernel) rfl)⟩ rfl (fun j hj => match j, hj with | 0, _ => rfl | 1, _ => rfl | 2, _ => rfl | 3, _ => rfl | 4, _ => rfl | 5, _ => rfl | 6, _ => rfl | 7, _ => rfl | (m + 8), h => absurd h (by omega)) ⟨Nat.le_of_ble_eq_true rfl, Nat.le_of_ble_eq_true rfl⟩ dX11_init_29 (pc' := 32) rfl (fun h15 e16 o17 => ?_)
  have hN17 : h15 (x + 5) = some (.inr (7, [.null, .null, .int (0), .int (0), .null, .null, .null, .null])) := e16
  have hO : h15 (x) = some (.inr (11, [.ref (x + 3), .ref (x + 1), .null, .null, .null, .null, .null, .int (0)])) := (o17 _ (by omega)).trans hO
  have hF : ∀ q, (q < x) → h15 q = h q := fun q hq => (o17 q (by omega)).trans (hF q hq)
  have hSt : StAt D h15 (x + 1) (fun _ => 0) (0) (0) := ⟨(o17 _ (by omega)).trans hSt.1, (o17 _ (by omega)).trans hSt.2⟩
  have hPg : PgAt D h15 (x + 3) (fun _ => 0) (0) := ⟨(o17 _ (by omega)).trans hPg.1, (o17 _ (by omega)).trans hPg.2⟩
  show qG X 5 38 (x + 6) h15 32 [(1, .ref (x + 1)), (0, .ref (x))] [.ref (x + 5), .ref (x)]
  refine g_dup C rfl dX11_init_32 rfl ?_
  refine g_aload_n C 0 dX11_init_33 rfl rfl rfl ?_
  refine g_callIc C (As := [.ref (x + 1)]) (k_X7_init l D b hN17) hw_11_25 (by decide) rfl rfl (Nat.le_of_ble_eq_true rfl) ⟨Nat.le_of_ble_eq_true rfl, Nat.le_of_ble_eq_true rfl⟩ dX11_init_34 (pc' := 37) rfl ?_
  rintro h18 ⟨hOl, fr⟩
  have hO : h18 (x) = some (.inr (11, [.ref (x + 3), .ref (x + 1), .null, .null, .null, .null, .null, .int (0)])) := (fr _ (by omega)).trans hO
  have hF : ∀ q, (q < x) → h18 q = h q := fun q hq => (fr q (by omega)).trans (hF q hq)
  have hSt : StAt D h18 (x + 1) (fun _ => 0) (0) (0) := ⟨(fr _ (by omega)).trans hSt.1, (fr _ (by omega)).trans hSt.2⟩
  have hPg : PgAt D h18 (x + 3) (fun _ => 0) (0) := ⟨(fr _ (by omega)).trans hPg.1, (fr _ (by omega)).trans hPg.2⟩
  show qG X 38 155 (x + 39) h18 37 [(1, .ref (x + 1)), (0, .ref (x))] [.ref (x + 5), .ref (x)]
  refine pf_11_28 C hin (hO) (v := .ref (x + 5)) rfl rfl (Nat.le_of_ble_eq_true rfl) dX11_init_37 (pc' := 40) rfl (fun h19 e20 o21 => ?_)
  have hO : h19 (x) = some (.inr (11, [.ref (x + 3), .ref (x + 1), .ref (x + 5), .null, .null, .null, .null, .int (0)])) := e20
  have hF : ∀ q, (q < x) → h19 q = h q := fun q hq => (o21 q (by omega)).trans (hF q hq)
  have hSt : StAt D h19 (x + 1) (fun _ => 0) (0) (0) := ⟨(o21 _ (by omega)).trans hSt.1, (o21 _ (by omega)).trans hSt.2⟩
  have hPg : PgAt D h19 (x + 3) (fun _ => 0) (0) := ⟨(o21 _ (by omega)).trans hPg.1, (o21 _ (by omega)).trans hPg.2⟩
  have hOl : OlAny D h19 (x + 5) (x + 1) (fun _ => -1) 0 0 := hOl.fr (fun q g1 g2 => o21 q (by omega))
  refine g_aload_n C 1 dX11_init_40 rfl rfl rfl ?_
  refine g_iconst C (v := 4) dX11_init_41 (by decide) rfl ?_
  refine g_anewQ C (N := 4) rfl (by decide) (AW_m 138 (by decide +kernel) rfl) ⟨Nat.le_of_ble_eq_true rfl, Nat.le_of_ble_eq_true rfl⟩ dX11_init_42 (pc' := 45) rfl (fun h22 e23 o24 => ?_)
  have hN24 : h22 (x + 39) = some (cQ D 4 (fun _ => none)) := e23
  have hO : h22 (x) = some (.inr (11, [.ref (x + 3), .ref (x + 1), .ref (x + 5), .null, .null, .null, .null, .int (0)])) := (o24 _ (by omega)).trans hO
  have hF : ∀ q, (q < x) → h22 q = h q := fun q hq => (o24 q (by omega)).trans (hF q hq)
  have hSt : StAt D h22 (x + 1) (fun _ => 0) (0) (0) := ⟨(o24 _ (by omega)).trans hSt.1, (o24 _ (by omega)).trans hSt.2⟩
  have hPg : PgAt D h22 (x + 3) (fun _ => 0) (0) := ⟨(o24 _ (by omega)).trans hPg.1, (o24 _ (by omega)).trans hPg.2⟩
  have hOl : OlAny D h22 (x + 5) (x + 1) (fun _ => -1) 0 0 := hOl.fr (fun q g1 g2 => o24 q (by omega))
  show qG X 39 159 (x + 40) h22 45 [(1, .ref (x + 1)), (0, .ref (x))] [.ref (x + 39), .ref (x)]
  refine pf_11_34 C hin (hO) (v := .ref (x + 39)) rfl rfl (Nat.le_of_ble_eq_true rfl) dX11_init_45 (pc' := 48) rfl (fun h25 e26 o27 => ?_)
  have hO : h25 (x) = some (.inr (11, [.ref (x + 3), .ref (x + 1), .ref (x + 5), .ref (x + 39), .null, .null, .null, .int (0)])) := e26
  have hF : ∀ q, (q < x) → h25 q = h q := fun q hq => (o27 q (by omega)).trans (hF q hq)
  have hSt : StAt D h25 (x + 1) (fun _ => 0) (0) (0) := ⟨(o27 _ (by omega)).trans hSt.1, (o27 _ (by omega)).trans hSt.2⟩
  have hPg : PgAt D h25 (x + 3) (fun _ => 0) (0) := ⟨(o27 _ (by omega)).trans hPg.1, (o27 _ (by omega)).trans hPg.2⟩
  have hOl : OlAny D h25 (x + 5) (x + 1) (fun _ => -1) 0 0 := hOl.fr (fun q g1 g2 => o27 q (by omega))
  have hN24 : h25 (x + 39) = some (cQ D 4 (fun _ => none)) := (o27 _ (by omega)).trans hN24
  refine g_aload_n C 1 dX11_init_48 rfl rfl rfl ?_
  refine g_new C (ci := 0) tyX0 tyX0_ok hin_0 (fs := [.null, .null, .int (0)]) ⟨(AW_m 140 (by decide +kernel) rfl), (AW_m 141 (by decide +kernel) rfl), (AW_m 46 (by decide +kernel) rfl)⟩ rfl (fun j hj => match j, hj with | 0, _ => rfl | 1, _ => rfl | 2, _ => rfl | (m + 3), h => absurd h (by omega)) ⟨Nat.le_of_ble_eq_true rfl, Nat.le_of_ble_eq_true rfl⟩ dX11_init_49 (pc' := 52) rfl (fun h28 e29 o30 => ?_)
  have hN30 : h28 (x + 40) = some (.inr (0, [.null, .null, .int (0)])) := e29
  have hO : h28 (x) = some (.inr (11, [.ref (x + 3), .ref (x + 1), .ref (x + 5), .ref (x + 39), .null, .null, .null, .int (0)])) := (o30 _ (by omega)).trans hO
  have hF : ∀ q, (q < x) → h28 q = h q := fun q hq => (o30 q (by omega)).trans (hF q hq)
  have hSt : StAt D h28 (x + 1) (fun _ => 0) (0) (0) := ⟨(o30 _ (by omega)).trans hSt.1, (o30 _ (by omega)).trans hSt.2⟩
  have hPg : PgAt D h28 (x + 3) (fun _ => 0) (0) := ⟨(o30 _ (by omega)).trans hPg.1, (o30 _ (by omega)).trans hPg.2⟩
  have hOl : OlAny D h28 (x + 5) (x + 1) (fun _ => -1) 0 0 := hOl.fr (fun q g1 g2 => o30 q (by omega))
  have hN24 : h28 (x + 39) = some (cQ D 4 (fun _ => none)) := (o30 _ (by omega)).trans hN24
  show qG X 40 162 (x + 41) h28 52 [(1, .ref (x + 1)), (0, .ref (x))] [.ref (x + 40), .ref (x)]
  refine g_dup C rfl dX11_init_52 rfl ?_
  refine g_callINc C (As := []) (k_X0_init l D b hN30) hw_11_40 (by decide) rfl rfl (Nat.le_of_ble_eq_true rfl) ⟨Nat.le_of_ble_eq_true rfl, Nat.le_of_ble_eq_true rfl⟩ dX11_init_53 (pc' := 56) rfl ?_
  rintro h31 ⟨hBk, fr⟩
  have hO : h31 (x) = some (.inr (11, [.ref (x + 3), .ref (x + 1), .ref (x + 5), .ref (x + 39), .null, .null, .null, .int (0)])) := (fr _ (by omega)).trans hO
  have hF : ∀ q, (q < x) → h31 q = h q := fun q hq => (fr q (by omega)).trans (hF q hq)
  have hSt : StAt D h31 (x + 1) (fun _ => 0) (0) (0) := ⟨(fr _ (by omega)).trans hSt.1, (fr _ (by omega)).trans hSt.2⟩
  have hPg : PgAt D h31 (x + 3) (fun _ => 0) (0) := ⟨(fr _ (by omega)).trans hPg.1, (fr _ (by omega)).trans hPg.2⟩
  have hOl : OlAny D h31 (x + 5) (x + 1) (fun _ => -1) 0 0 := hOl.fr (fun q g1 g2 => fr q (by omega))
  have hN24 : h31 (x + 39) = some (cQ D 4 (fun _ => none)) := (fr _ (by omega)).trans hN24
  show qG X 42 186 (x + 43) h31 56 [(1, .ref (x + 1)), (0, .ref (x))] [.ref (x + 40), .ref (x)]
  refine pf_11_41 C hin (hO) (v := .ref (x + 40)) rfl rfl (Nat.le_of_ble_eq_true rfl) dX11_init_56 (pc' := 59) rfl (fun h32 e33 o34 => ?_)
  have hO : h32 (x) = some (.inr (11, [.ref (x + 3), .ref (x + 1), .ref (x + 5), .ref (x + 39), .ref (x + 40), .null, .null, .int (0)])) := e33
  have hF : ∀ q, (q < x) → h32 q = h q := fun q hq => (o34 q (by omega)).trans (hF q hq)
  have hSt : StAt D h32 (x + 1) (fun _ => 0) (0) (0) := ⟨(o34 _ (by omega)).trans hSt.1, (o34 _ (by omega)).trans hSt.2⟩
  have hPg : PgAt D h32 (x + 3) (fun _ => 0) (0) := ⟨(o34 _ (by omega)).trans hPg.1, (o34 _ (by omega)).trans hPg.2⟩
  have hOl : OlAny D h32 (x + 5) (x + 1) (fun _ => -1) 0 0 := hOl.fr (fun q g1 g2 => o34 q (by omega))
  have hN24 : h32 (x + 39) = some (cQ D 4 (fun _ => none)) := (o34 _ (by omega)).trans hN24
  have hBk : BkAt D h32 (x + 40) (fun _ => 0) (fun _ => 0) (0) := ⟨(o34 _ (by omega)).trans hBk.1, (o34 _ (by omega)).trans hBk.2.1, (o34 _ (by omega)).trans hBk.2.2⟩
  refine g_aload_n C 1 dX11_init_59 rfl rfl rfl ?_
  refine g_new C (ci := 10) tyX10 tyX10_ok hin_10 (fs := [.null, .null, .null, .int (0), .long (0), .int (0), .int (0), .int (0)]) ⟨(AW_m 157 (by decide +kernel) rfl), (AW_m 158 (by decide +kernel) rfl), (AW_m 47 (by decide +kernel) rfl)⟩ rfl (fun j hj => match j, hj with | 0, _ => rfl | 1, _ => rfl | 2, _ => rfl | 3, _ => rfl | 4, _ => rfl | 5, _ => rfl | 6, _ => rfl | 7, _ => rfl | (m + 8), h => absurd h (by omega)) ⟨Nat.le_of_ble_eq_true rfl, Nat.le_of_ble_eq_true rfl⟩ dX11_init_60 (pc' := 63) rfl (fun h35 e36 o37 => ?_)
  have hN37 : h35 (x + 43) = some (.inr (10, [.null, .null, .null, .int (0), .long (0), .int (0), .int (0), .int (0)])) := e36
  have hO : h35 (x) = some (.inr (11, [.ref (x + 3), .ref (x + 1), .ref (x + 5), .ref (x + 39), .ref (x + 40), .null, .null, .int (0)])) := (o37 _ (by omega)).trans hO
  have hF : ∀ q, (q < x) → h35 q = h q := fun q hq => (o37 q (by omega)).trans (hF q hq)
  have hSt : StAt D h35 (x + 1) (fun _ => 0) (0) (0) := ⟨(o37 _ (by omega)).trans hSt.1, (o37 _ (by omega)).trans hSt.2⟩
  have hPg : PgAt D h35 (x + 3) (fun _ => 0) (0) := ⟨(o37 _ (by omega)).trans hPg.1, (o37 _ (by omega)).trans hPg.2⟩
  have hOl : OlAny D h35 (x + 5) (x + 1) (fun _ => -1) 0 0 := hOl.fr (fun q g1 g2 => o37 q (by omega))
  have hN24 : h35 (x + 39) = some (cQ D 4 (fun _ => none)) := (o37 _ (by omega)).trans hN24
  have hBk : BkAt D h35 (x + 40) (fun _ => 0) (fun _ => 0) (0) := ⟨(o37 _ (by omega)).trans hBk.1, (o37 _ (by omega)).trans hBk.2.1, (o37 _ (by omega)).trans hBk.2.2⟩
  show qG X 43 194 (x + 44) h35 63 [(1, .ref (x + 1)), (0, .ref (x))] [.ref (x + 43), .ref (x)]
  refine g_dup C rfl dX11_init_63 rfl ?_
  refine g_aload_n C 0 dX11_init_64 rfl rfl rfl ?_
  refine g_new C (ci := 7) tyX7 tyX7_ok hin_7 (fs := [.null, .null, .int (0), .int (0), .null, .null, .null, .null]) ⟨(AW_m 100 (by decide +kernel) rfl), (AW_m 101 (by decide +kernel) rfl), (AW_m 45 (by decide +kernel) rfl)⟩ rfl (fun j hj => match j, hj with | 0, _ => rfl | 1, _ => rfl | 2, _ => rfl | 3, _ => rfl | 4, _ => rfl | 5, _ => rfl | 6, _ => rfl | 7, _ => rfl | (m + 8), h => absurd h (by omega)) ⟨Nat.le_of_ble_eq_true rfl, Nat.le_of_ble_eq_true rfl⟩ dX11_init_65 (pc' := 68) rfl (fun h38 e39 o40 => ?_)
  have hN40 : h38 (x + 44) = some (.inr (7, [.null, .null, .int (0), .int (0), .null, .null, .null, .null])) := e39
  have hO : h38 (x) = some (.inr (11, [.ref (x + 3), .ref (x + 1), .ref (x + 5), .ref (x + 39), .ref (x + 40), .null, .null, .int (0)])) := (o40 _ (by omega)).trans hO
  have hF : ∀ q, (q < x) → h38 q = h q := fun q hq => (o40 q (by omega)).trans (hF q hq)
  have hSt : StAt D h38 (x + 1) (fun _ => 0) (0) (0) := ⟨(o40 _ (by omega)).trans hSt.1, (o40 _ (by omega)).trans hSt.2⟩
  have hPg : PgAt D h38 (x + 3) (fun _ => 0) (0) := ⟨(o40 _ (by omega)).trans hPg.1, (o40 _ (by omega)).trans hPg.2⟩
  have hOl : OlAny D h38 (x + 5) (x + 1) (fun _ => -1) 0 0 := hOl.fr (fun q g1 g2 => o40 q (by omega))
  have hN24 : h38 (x + 39) = some (cQ D 4 (fun _ => none)) := (o40 _ (by omega)).trans hN24
  have hBk : BkAt D h38 (x + 40) (fun _ => 0) (fun _ => 0) (0) := ⟨(o40 _ (by omega)).trans hBk.1, (o40 _ (by omega)).trans hBk.2.1, (o40 _ (by omega)).trans hBk.2.2⟩
  have hN37 : h38 (x + 43) = some (.inr (10, [.null, .null, .null, .int (0), .long (0), .int (0), .int (0), .int (0)])) := (o40 _ (by omega)).trans hN37
  show qG X 44 202 (x + 45) h38 68 [(1, .ref (x + 1)), (0, .ref (x))] [.ref (x + 44), .ref (x + 1), .ref (x + 43), .ref (x + 43), .ref (x)]
  refine g_dup C rfl dX11_init_68 rfl ?_
  refine g_aload_n C 0 dX11_init_69 rfl rfl rfl ?_
  refine g_callIc C (As := [.ref (x + 1)]) (k_X7_init l D b hN40) hw_11_25 (by decide) rfl rfl (Nat.le_of_ble_eq_true rfl) ⟨Nat.le_of_ble_eq_true rfl, Nat.le_of_ble_eq_true rfl⟩ dX11_init_70 (pc' := 73) rfl ?_
  rintro h41 ⟨hTo, fr⟩
  have hO : h41 (x) = some (.inr (11, [.ref (x + 3), .ref (x + 1), .ref (x + 5), .ref (x + 39), .ref (x + 40), .null, .null, .int (0)])) := (fr _ (by omega)).trans hO
  have hF : ∀ q, (q < x) → h41 q = h q := fun q hq => (fr q (by omega)).trans (hF q hq)
  have hSt : StAt D h41 (x + 1) (fun _ => 0) (0) (0) := ⟨(fr _ (by omega)).trans hSt.1, (fr _ (by omega)).trans hSt.2⟩
  have hPg : PgAt D h41 (x + 3) (fun _ => 0) (0) := ⟨(fr _ (by omega)).trans hPg.1, (fr _ (by omega)).trans hPg.2⟩
  have hOl : OlAny D h41 (x + 5) (x + 1) (fun _ => -1) 0 0 := hOl.fr (fun q g1 g2 => fr q (by omega))
  have hN24 : h41 (x + 39) = some (cQ D 4 (fun _ => none)) := (fr _ (by omega)).trans hN24
  have hBk : BkAt D h41 (x + 40) (fun _ => 0) (fun _ => 0) (0) := ⟨(fr _ (by omega)).trans hBk.1, (fr _ (by omega)).trans hBk.2.1, (fr _ (by omega)).trans hBk.2.2⟩
  have hN37 : h41 (x + 43) = some (.inr (10, [.null, .null, .null, .int (0), .long (0), .int (0), .int (0), .int (0)])) := (fr _ (by omega)).trans hN37
  show qG X 77 319 (x + 78) h41 73 [(1, .ref (x + 1)), (0, .ref (x))] [.ref (x + 44), .ref (x + 1), .ref (x + 43), .ref (x + 43), .ref (x)]
  refine g_callIc C (As := [.ref (x + 1), .ref (x + 44)]) (k_X10_init l D b hN37) hw_11_47 (by decide) rfl rfl (Nat.le_of_ble_eq_true rfl) ⟨Nat.le_of_ble_eq_true rfl, Nat.le_of_ble_eq_true rfl⟩ dX11_init_73 (pc' := 76) rfl ?_
  rintro h42 ⟨hTr, fr⟩
  have hO : h42 (x) = some (.inr (11, [.ref (x + 3), .ref (x + 1), .ref (x + 5), .ref (x + 39), .ref (x + 40), .null, .null, .int (0)])) := (fr _ (by omega)).trans hO
  have hF : ∀ q, (q < x) → h42 q = h q := fun q hq => (fr q (by omega)).trans (hF q hq)
  have hSt : StAt D h42 (x + 1) (fun _ => 0) (0) (0) := ⟨(fr _ (by omega)).trans hSt.1, (fr _ (by omega)).trans hSt.2⟩
  have hPg : PgAt D h42 (x + 3) (fun _ => 0) (0) := ⟨(fr _ (by omega)).trans hPg.1, (fr _ (by omega)).trans hPg.2⟩
  have hOl : OlAny D h42 (x + 5) (x + 1) (fun _ => -1) 0 0 := hOl.fr (fun q g1 g2 => fr q (by omega))
  have hN24 : h42 (x + 39) = some (cQ D 4 (fun _ => none)) := (fr _ (by omega)).trans hN24
  have hBk : BkAt D h42 (x + 40) (fun _ => 0) (fun _ => 0) (0) := ⟨(fr _ (by omega)).trans hBk.1, (fr _ (by omega)).trans hBk.2.1, (fr _ (by omega)).trans hBk.2.2⟩
  have hTo : OlAny D h42 (x + 44) (x + 1) (fun _ => -1) 0 0 := hTo.fr (fun q g1 g2 => fr q (by omega))
  show qG X 78 324 (x + 79) h42 76 [(1, .ref (x + 1)), (0, .ref (x))] [.ref (x + 43), .ref (x)]
  refine pf_11_50 C hin (hO) (v := .ref (x + 43)) rfl rfl (Nat.le_of_ble_eq_true rfl) dX11_init_76 (pc' := 79) rfl (fun h43 e44 o45 => ?_)
  have hO : h43 (x) = some (.inr (11, [.ref (x + 3), .ref (x + 1), .ref (x + 5), .ref (x + 39), .ref (x + 40), .ref (x + 43), .null, .int (0)])) := e44
  have hF : ∀ q, (q < x) → h43 q = h q := fun q hq => (o45 q (by omega)).trans (hF q hq)
  have hSt : StAt D h43 (x + 1) (fun _ => 0) (0) (0) := ⟨(o45 _ (by omega)).trans hSt.1, (o45 _ (by omega)).trans hSt.2⟩
  have hPg : PgAt D h43 (x + 3) (fun _ => 0) (0) := ⟨(o45 _ (by omega)).trans hPg.1, (o45 _ (by omega)).trans hPg.2⟩
  have hOl : OlAny D h43 (x + 5) (x + 1) (fun _ => -1) 0 0 := hOl.fr (fun q g1 g2 => o45 q (by omega))
  have hN24 : h43 (x + 39) = some (cQ D 4 (fun _ => none)) := (o45 _ (by omega)).trans hN24
  have hBk : BkAt D h43 (x + 40) (fun _ => 0) (fun _ => 0) (0) := ⟨(o45 _ (by omega)).trans hBk.1, (o45 _ (by omega)).trans hBk.2.1, (o45 _ (by omega)).trans hBk.2.2⟩
  have hTr : TrAt D h43 (x + 43) (x + 1) (fun _ => 0) (0) (0) (0) (0) (0) := ⟨(o45 _ (by omega)).trans hTr.1, (o45 _ (by omega)).trans hTr.2⟩
  have hTo : OlAny D h43 (x + 44) (x + 1) (fun _ => -1) 0 0 := hTo.fr (fun q g1 g2 => o45 q (by omega))
  refine g_aload_n C 1 dX11_init_79 rfl rfl rfl ?_
  refine g_new C (ci := 3) tyX3 tyX3_ok hin_3 (fs := [.null, .null, .null, .int (0), .int (0)]) ⟨(AW_m 192 (by decide +kernel) rfl), (AW_m 193 (by decide +kernel) rfl), (AW_m 48 (by decide +kernel) rfl)⟩ rfl (fun j hj => match j, hj with | 0, _ => rfl | 1, _ => rfl | 2, _ => rfl | 3, _ => rfl | 4, _ => rfl | (m + 5), h => absurd h (by omega)) ⟨Nat.le_of_ble_eq_true rfl, Nat.le_of_ble_eq_true rfl⟩ dX11_init_80 (pc' := 83) rfl (fun h46 e47 o48 => ?_)
  have hN48 : h46 (x + 79) = some (.inr (3, [.null, .null, .null, .int (0), .int (0)])) := e47
  have hO : h46 (x) = some (.inr (11, [.ref (x + 3), .ref (x + 1), .ref (x + 5), .ref (x + 39), .ref (x + 40), .ref (x + 43), .null, .int (0)])) := (o48 _ (by omega)).trans hO
  have hF : ∀ q, (q < x) → h46 q = h q := fun q hq => (o48 q (by omega)).trans (hF q hq)
  have hSt : StAt D h46 (x + 1) (fun _ => 0) (0) (0) := ⟨(o48 _ (by omega)).trans hSt.1, (o48 _ (by omega)).trans hSt.2⟩
  have hPg : PgAt D h46 (x + 3) (fun _ => 0) (0) := ⟨(o48 _ (by omega)).trans hPg.1, (o48 _ (by omega)).trans hPg.2⟩
  have hOl : OlAny D h46 (x + 5) (x + 1) (fun _ => -1) 0 0 := hOl.fr (fun q g1 g2 => o48 q (by omega))
  have hN24 : h46 (x + 39) = some (cQ D 4 (fun _ => none)) := (o48 _ (by omega)).trans hN24
  have hBk : BkAt D h46 (x + 40) (fun _ => 0) (fun _ => 0) (0) := ⟨(o48 _ (by omega)).trans hBk.1, (o48 _ (by omega)).trans hBk.2.1, (o48 _ (by omega)).trans hBk.2.2⟩
  have hTr : TrAt D h46 (x + 43) (x + 1) (fun _ => 0) (0) (0) (0) (0) (0) := ⟨(o48 _ (by omega)).trans hTr.1, (o48 _ (by omega)).trans hTr.2⟩
  have hTo : OlAny D h46 (x + 44) (x + 1) (fun _ => -1) 0 0 := hTo.fr (fun q g1 g2 => o48 q (by omega))
  show qG X 79 329 (x + 80) h46 83 [(1, .ref (x + 1)), (0, .ref (x))] [.ref (x + 79), .ref (x)]
  refine g_dup C rfl dX11_init_83 rfl ?_
  refine g_new C (ci := 7) tyX7 tyX7_ok hin_7 (fs := [.null, .null, .int (0), .int (0), .null, .null, .null, .null]) ⟨(AW_m 100 (by decide +kernel) rfl), (AW_m 101 (by decide +kernel) rfl), (AW_m 45 (by decide +kernel) rfl)⟩ rfl (fun j hj => match j, hj with | 0, _ => rfl | 1, _ => rfl | 2, _ => rfl | 3, _ => rfl | 4, _ => rfl | 5, _ => rfl | 6, _ => rfl | 7, _ => rfl | (m + 8), h => absurd h (by omega)) ⟨Nat.le_of_ble_eq_true rfl, Nat.le_of_ble_eq_true rfl⟩ dX11_init_84 (pc' := 87) rfl (fun h49 e50 o51 => ?_)
  have hN51 : h49 (x + 80) = some (.inr (7, [.null, .null, .int (0), .int (0), .null, .null, .null, .null])) := e50
  have hO : h49 (x) = some (.inr (11, [.ref (x + 3), .ref (x + 1), .ref (x + 5), .ref (x + 39), .ref (x + 40), .ref (x + 43), .null, .int (0)])) := (o51 _ (by omega)).trans hO
  have hF : ∀ q, (q < x) → h49 q = h q := fun q hq => (o51 q (by omega)).trans (hF q hq)
  have hSt : StAt D h49 (x + 1) (fun _ => 0) (0) (0) := ⟨(o51 _ (by omega)).trans hSt.1, (o51 _ (by omega)).trans hSt.2⟩
  have hPg : PgAt D h49 (x + 3) (fun _ => 0) (0) := ⟨(o51 _ (by omega)).trans hPg.1, (o51 _ (by omega)).trans hPg.2⟩
  have hOl : OlAny D h49 (x + 5) (x + 1) (fun _ => -1) 0 0 := hOl.fr (fun q g1 g2 => o51 q (by omega))
  have hN24 : h49 (x + 39) = some (cQ D 4 (fun _ => none)) := (o51 _ (by omega)).trans hN24
  have hBk : BkAt D h49 (x + 40) (fun _ => 0) (fun _ => 0) (0) := ⟨(o51 _ (by omega)).trans hBk.1, (o51 _ (by omega)).trans hBk.2.1, (o51 _ (by omega)).trans hBk.2.2⟩
  have hTr : TrAt D h49 (x + 43) (x + 1) (fun _ => 0) (0) (0) (0) (0) (0) := ⟨(o51 _ (by omega)).trans hTr.1, (o51 _ (by omega)).trans hTr.2⟩
  have hTo : OlAny D h49 (x + 44) (x + 1) (fun _ => -1) 0 0 := hTo.fr (fun q g1 g2 => o51 q (by omega))
  have hN48 : h49 (x + 79) = some (.inr (3, [.null, .null, .null, .int (0), .int (0)])) := (o51 _ (by omega)).trans hN48
  show qG X 80 337 (x + 81) h49 87 [(1, .ref (x + 1)), (0, .ref (x))] [.ref (x + 80), .ref (x + 79), .ref (x + 79), .ref (x)]
  refine g_dup C rfl dX11_init_87 rfl ?_
  refine g_aload_n C 0 dX11_init_88 rfl rfl rfl ?_
  refine g_callIc C (As := [.ref (x + 1)]) (k_X7_init l D b hN51) hw_11_25 (by decide) rfl rfl (Nat.le_of_ble_eq_true rfl) ⟨Nat.le_of_ble_eq_true rfl, Nat.le_of_ble_eq_true rfl⟩ dX11_init_89 (pc' := 92) rfl ?_
  rintro h52 ⟨hIo, fr⟩
  have hO : h52 (x) = some (.inr (11, [.ref (x + 3), .ref (x + 1), .ref (x + 5), .ref (x + 39), .ref (x + 40), .ref (x + 43), .null, .int (0)])) := (fr _ (by omega)).trans hO
  have hF : ∀ q, (q < x) → h52 q = h q := fun q hq => (fr q (by omega)).trans (hF q hq)
  have hSt : StAt D h52 (x + 1) (fun _ => 0) (0) (0) := ⟨(fr _ (by omega)).trans hSt.1, (fr _ (by omega)).trans hSt.2⟩
  have hPg : PgAt D h52 (x + 3) (fun _ => 0) (0) := ⟨(fr _ (by omega)).trans hPg.1, (fr _ (by omega)).trans hPg.2⟩
  have hOl : OlAny D h52 (x + 5) (x + 1) (fun _ => -1) 0 0 := hOl.fr (fun q g1 g2 => fr q (by omega))
  have hN24 : h52 (x + 39) = some (cQ D 4 (fun _ => none)) := (fr _ (by omega)).trans hN24
  have hBk : BkAt D h52 (x + 40) (fun _ => 0) (fun _ => 0) (0) := ⟨(fr _ (by omega)).trans hBk.1, (fr _ (by omega)).trans hBk.2.1, (fr _ (by omega)).trans hBk.2.2⟩
  have hTr : TrAt D h52 (x + 43) (x + 1) (fun _ => 0) (0) (0) (0) (0) (0) := ⟨(fr _ (by omega)).trans hTr.1, (fr _ (by omega)).trans hTr.2⟩
  have hTo : OlAny D h52 (x + 44) (x + 1) (fun _ => -1) 0 0 := hTo.fr (fun q g1 g2 => fr q (by omega))
  have hN48 : h52 (x + 79) = some (.inr (3, [.null, .null, .null, .int (0), .int (0)])) := (fr _ (by omega)).trans hN48
  show qG X 113 454 (x + 114) h52 92 [(1, .ref (x + 1)), (0, .ref (x))] [.ref (x + 80), .ref (x + 79), .ref (x + 79), .ref (x)]
  refine g_new C (ci := 0) tyX0 tyX0_ok hin_0 (fs := [.null, .null, .int (0)]) ⟨(AW_m 140 (by decide +kernel) rfl), (AW_m 141 (by decide +kernel) rfl), (AW_m 46 (by decide +kernel) rfl)⟩ rfl (fun j hj => match j, hj with | 0, _ => rfl | 1, _ => rfl | 2, _ => rfl | (m + 3), h => absurd h (by omega)) ⟨Nat.le_of_ble_eq_true rfl, Nat.le_of_ble_eq_true rfl⟩ dX11_init_92 (pc' := 95) rfl (fun h53 e54 o55 => ?_)
  have hN55 : h53 (x + 114) = some (.inr (0, [.null, .null, .int (0)])) := e54
  have hO : h53 (x) = some (.inr (11, [.ref (x + 3), .ref (x + 1), .ref (x + 5), .ref (x + 39), .ref (x + 40), .ref (x + 43), .null, .int (0)])) := (o55 _ (by omega)).trans hO
  have hF : ∀ q, (q < x) → h53 q = h q := fun q hq => (o55 q (by omega)).trans (hF q hq)
  have hSt : StAt D h53 (x + 1) (fun _ => 0) (0) (0) := ⟨(o55 _ (by omega)).trans hSt.1, (o55 _ (by omega)).trans hSt.2⟩
  have hPg : PgAt D h53 (x + 3) (fun _ => 0) (0) := ⟨(o55 _ (by omega)).trans hPg.1, (o55 _ (by omega)).trans hPg.2⟩
  have hOl : OlAny D h53 (x + 5) (x + 1) (fun _ => -1) 0 0 := hOl.fr (fun q g1 g2 => o55 q (by omega))
  have hN24 : h53 (x + 39) = some (cQ D 4 (fun _ => none)) := (o55 _ (by omega)).trans hN24
  have hBk : BkAt D h53 (x + 40) (fun _ => 0) (fun _ => 0) (0) := ⟨(o55 _ (by omega)).trans hBk.1, (o55 _ (by omega)).trans hBk.2.1, (o55 _ (by omega)).trans hBk.2.2⟩
  have hTr : TrAt D h53 (x + 43) (x + 1) (fun _ => 0) (0) (0) (0) (0) (0) := ⟨(o55 _ (by omega)).trans hTr.1, (o55 _ (by omega)).trans hTr.2⟩
  have hTo : OlAny D h53 (x + 44) (x + 1) (fun _ => -1) 0 0 := hTo.fr (fun q g1 g2 => o55 q (by omega))
  have hN48 : h53 (x + 79) = some (.inr (3, [.null, .null, .null, .int (0), .int (0)])) := (o55 _ (by omega)).trans hN48
  have hIo : OlAny D h53 (x + 80) (x + 1) (fun _ => -1) 0 0 := hIo.fr (fun q g1 g2 => o55 q (by omega))
  show qG X 114 457 (x + 115) h53 95 [(1, .ref (x + 1)), (0, .ref (x))] [.ref (x + 114), .ref (x + 80), .ref (x + 79), .ref (x + 79), .ref (x)]
  refine g_dup C rfl dX11_init_95 rfl ?_
  refine g_callINc C (As := []) (k_X0_init l D b hN55) hw_11_40 (by decide) rfl rfl (Nat.le_of_ble_eq_true rfl) ⟨Nat.le_of_ble_eq_true rfl, Nat.le_of_ble_eq_true rfl⟩ dX11_init_96 (pc' := 99) rfl ?_
  rintro h56 ⟨hIb, fr⟩
  have hO : h56 (x) = some (.inr (11, [.ref (x + 3), .ref (x + 1), .ref (x + 5), .ref (x + 39), .ref (x + 40), .ref (x + 43), .null, .int (0)])) := (fr _ (by omega)).trans hO
  have hF : ∀ q, (q < x) → h56 q = h q := fun q hq => (fr q (by omega)).trans (hF q hq)
  have hSt : StAt D h56 (x + 1) (fun _ => 0) (0) (0) := ⟨(fr _ (by omega)).trans hSt.1, (fr _ (by omega)).trans hSt.2⟩
  have hPg : PgAt D h56 (x + 3) (fun _ => 0) (0) := ⟨(fr _ (by omega)).trans hPg.1, (fr _ (by omega)).trans hPg.2⟩
  have hOl : OlAny D h56 (x + 5) (x + 1) (fun _ => -1) 0 0 := hOl.fr (fun q g1 g2 => fr q (by omega))
  have hN24 : h56 (x + 39) = some (cQ D 4 (fun _ => none)) := (fr _ (by omega)).trans hN24
  have hBk : BkAt D h56 (x + 40) (fun _ => 0) (fun _ => 0) (0) := ⟨(fr _ (by omega)).trans hBk.1, (fr _ (by omega)).trans hBk.2.1, (fr _ (by omega)).trans hBk.2.2⟩
  have hTr : TrAt D h56 (x + 43) (x + 1) (fun _ => 0) (0) (0) (0) (0) (0) := ⟨(fr _ (by omega)).trans hTr.1, (fr _ (by omega)).trans hTr.2⟩
  have hTo : OlAny D h56 (x + 44) (x + 1) (fun _ => -1) 0 0 := hTo.fr (fun q g1 g2 => fr q (by omega))
  have hN48 : h56 (x + 79) = some (.inr (3, [.null, .null, .null, .int (0), .int (0)])) := (fr _ (by omega)).trans hN48
  have hIo : OlAny D h56 (x + 80) (x + 1) (fun _ => -1) 0 0 := hIo.fr (fun q g1 g2 => fr q (by omega))
  show qG X 116 481 (x + 117) h56 99 [(1, .ref (x + 1)), (0, .ref (x))] [.ref (x + 114), .ref (x + 80), .ref (x + 79), .ref (x + 79), .ref (x)]
  refine g_callIc C (As := [.ref (x + 80), .ref (x + 114)]) (k_X3_init l D b hN48) hw_11_56 (by decide) rfl rfl (Nat.le_of_ble_eq_true rfl) ⟨Nat.le_of_ble_eq_true rfl, Nat.le_of_ble_eq_true rfl⟩ dX11_init_99 (pc' := 102) rfl ?_
  rintro h57 ⟨hIm, fr⟩
  have hO : h57 (x) = some (.inr (11, [.ref (x + 3), .ref (x + 1), .ref (x + 5), .ref (x + 39), .ref (x + 40), .ref (x + 43), .null, .int (0)])) := (fr _ (by omega)).trans hO
  have hF : ∀ q, (q < x) → h57 q = h q := fun q hq => (fr q (by omega)).trans (hF q hq)
  have hSt : StAt D h57 (x + 1) (fun _ => 0) (0) (0) := ⟨(fr _ (by omega)).trans hSt.1, (fr _ (by omega)).trans hSt.2⟩
  have hPg : PgAt D h57 (x + 3) (fun _ => 0) (0) := ⟨(fr _ (by omega)).trans hPg.1, (fr _ (by omega)).trans hPg.2⟩
  have hOl : OlAny D h57 (x + 5) (x + 1) (fun _ => -1) 0 0 := hOl.fr (fun q g1 g2 => fr q (by omega))
  have hN24 : h57 (x + 39) = some (cQ D 4 (fun _ => none)) := (fr _ (by omega)).trans hN24
  have hBk : BkAt D h57 (x + 40) (fun _ => 0) (fun _ => 0) (0) := ⟨(fr _ (by omega)).trans hBk.1, (fr _ (by omega)).trans hBk.2.1, (fr _ (by omega)).trans hBk.2.2⟩
  have hTr : TrAt D h57 (x + 43) (x + 1) (fun _ => 0) (0) (0) (0) (0) (0) := ⟨(fr _ (by omega)).trans hTr.1, (fr _ (by omega)).trans hTr.2⟩
  have hTo : OlAny D h57 (x + 44) (x + 1) (fun _ => -1) 0 0 := hTo.fr (fun q g1 g2 => fr q (by omega))
  have hIo : OlAny D h57 (x + 80) (x + 1) (fun _ => -1) 0 0 := hIo.fr (fun q g1 g2 => fr q (by omega))
  have hIb : BkAt D h57 (x + 114) (fun _ => 0) (fun _ => 0) (0) := ⟨(fr _ (by omega)).trans hIb.1, (fr _ (by omega)).trans hIb.2.1, (fr _ (by omega)).trans hIb.2.2⟩
  show qG X 117 485 (x + 118) h57 102 [(1, .ref (x + 1)), (0, .ref (x))] [.ref (x + 79), .ref (x)]
  refine pf_11_59 C hin (hO) (v := .ref (x + 79)) rfl rfl (Nat.le_of_ble_eq_true rfl) dX11_init_102 (pc' := 105) rfl (fun h58 e59 o60 => ?_)
  have hO : h58 (x) = some (.inr (11, [.ref (x + 3), .ref (x + 1), .ref (x + 5), .ref (x + 39), .ref (x + 40), .ref (x + 43), .ref (x + 79), .int (0)])) := e59
  have hF : ∀ q, (q < x) → h58 q = h q := fun q hq => (o60 q (by omega)).trans (hF q hq)
  have hSt : StAt D h58 (x + 1) (fun _ => 0) (0) (0) := ⟨(o60 _ (by omega)).trans hSt.1, (o60 _ (by omega)).trans hSt.2⟩
  have hPg : PgAt D h58 (x + 3) (fun _ => 0) (0) := ⟨(o60 _ (by omega)).trans hPg.1, (o60 _ (by omega)).trans hPg.2⟩
  have hOl : OlAny D h58 (x + 5) (x + 1) (fun _ => -1) 0 0 := hOl.fr (fun q g1 g2 => o60 q (by omega))
  have hN24 : h58 (x + 39) = some (cQ D 4 (fun _ => none)) := (o60 _ (by omega)).trans hN24
  have hBk : BkAt D h58 (x + 40) (fun _ => 0) (fun _ => 0) (0) := ⟨(o60 _ (by omega)).trans hBk.1, (o60 _ (by omega)).trans hBk.2.1, (o60 _ (by omega)).trans hBk.2.2⟩
  have hTr : TrAt D h58 (x + 43) (x + 1) (fun _ => 0) (0) (0) (0) (0) (0) := ⟨(o60 _ (by omega)).trans hTr.1, (o60 _ (by omega)).trans hTr.2⟩
  have hTo : OlAny D h58 (x + 44) (x + 1) (fun _ => -1) 0 0 := hTo.fr (fun q g1 g2 => o60 q (by omega))
  have hIm : ImAt D h58 (x + 79) (fun _ => 0) (0) (0) := ⟨(o60 _ (by omega)).trans hIm.1, (o60 _ (by omega)).trans hIm.2⟩
  have hIo : OlAny D h58 (x + 80) (x + 1) (fun _ => -1) 0 0 := hIo.fr (fun q g1 g2 => o60 q (by omega))
  have hIb : BkAt D h58 (x + 114) (fun _ => 0) (fun _ => 0) (0) := ⟨(o60 _ (by omega)).trans hIb.1, (o60 _ (by omega)).trans hIb.2.1, (o60 _ (by omega)).trans hIb.2.2⟩
  exact ret _ _ _ dX11_init_105 (⟨Cls_mk (InS_mk (Nat.zero_le _) (Nat.zero_le _) (by decide) (by decide) (by decide) (Nat.zero_le _) (Nat.zero_le _) (Nat.zero_le _) (fun _ _ => Nat.zero_le _) (fun _ h => absurd h (Nat.not_lt_zero _)) (by decide) ((fun g : imK sg0 => absurd (show (0 : Nat) = 1 from g.1) (by decide))) (Nat.zero_le _) (Nat.zero_le _) (fun _ => rfl)) hO hSt hPg ⟨hOl, fun g => absurd (show (0 : Nat) = 1 from g) (by decide)⟩ ⟨fun _ => x + 134, ⟨Nat.zero_le _, ⟨_, hN24, fun _ h => absurd h (Nat.not_lt_zero _), fun _ _ _ => rfl⟩, fun _ h => absurd h (Nat.not_lt_zero _)⟩, fun _ h => absurd h (Nat.not_lt_zero _), fun _ _ h => absurd h (Nat.not_lt_zero _)⟩ hBk ⟨fun _ => 0, fun _ => 0, 0, 0, 0, 0, 0, fun _ => -1, 0, 0, fun _ _ => ⟨rfl, Nat.succ_pos 2⟩, hTr, hTo⟩ ⟨fun _ => 0, 0, 0, fun _ => -1, 0, 0, fun _ => 0, fun _ => 0, 0, hIm, hIo, hIb, by decide, ⟨fun g => absurd g (by decide), (fun g : imK sg0 => absurd (show (0 : Nat) = 1 from g.1) (by decide))⟩, (fun g : imK sg0 => absurd (show (0 : Nat) = 1 from g.1) (by decide))⟩, hF⟩)

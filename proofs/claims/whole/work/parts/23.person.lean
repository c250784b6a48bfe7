/-! a new person -/
theorem qW_mono {p : Program} {l : Launch} {e : Env} {R : Room} {s : State} {m : MethodId} {args : Array Value} {below : List Frame} {meth : Method} {c : Code} {H : Heap} {locs : List Loc} {cells slots : Nat} {Q Q' : State → Prop} {g : JFrame} (h : ∀ t, Q t → Q' t) (k : W p l e R s m args below meth c H locs cells slots Q g) : W p l e R s m args below meth c H locs cells slots Q' g := fun T hT X => by
  obtain ⟨t, a, b⟩ := k T hT X
  exact ⟨t, a, h t b⟩
theorem qMQ_mono {below : List Frame} {Qc : Array Value → State → Outcome → State → Prop} {a : Array Value} {s : State} {c1 n1 c2 n2 : Nat} {free : Addr → Prop} (hc : c1 ≤ c2) (hn : n1 ≤ n2) (t : State) (H : MQ below Qc a s c1 n1 free t) : MQ below Qc a s c2 n2 free t := by
  obtain ⟨o, h1, h2, h3, L, ⟨f1, f2, f3⟩, h4⟩ := H
  exact ⟨o, h1, h2, h3, L, ⟨f1, f2, f3.mono hc hn⟩, h4⟩
/-- an answer, and up to mc new cells -/
def qMp (l : Launch) (D : va_G) (b : Nat) (y : MethodName) (c : ByteArray) (nl : Nat) (rt : FieldType) (f lo mc ms : Nat) (av : List Value) (h : qH) (z : Nat) (post : Int32 → qH → Nat → Prop) : Prop := Met l y (wm y c nl (some rt)) ({ frames := f, cells := mc, slots := ms, locals := lo } : Room) (va_Pc av (qPre D b h z)) (va_Qi (S := qH × Nat) (fun r u => post r u.1 u.2) (fun u t => qP D b u.1 u.2 t.heap) (qA b)) mc ms (qA b)
/-- a new object is handed out -/
def qMn (l : Launch) (D : va_G) (b : Nat) (y : MethodName) (c : ByteArray) (nl : Nat) (rt : FieldType) (f lo mc ms : Nat) (av : List Value) (h : qH) (z : Nat) (post : Option Nat → qH → Prop) : Prop := Met l y (wm y c nl (some rt)) ({ frames := f, cells := mc, slots := ms, locals := lo } : Room) (va_Pc av (qPre D b h z)) (va_Qq post (qB D b (z + mc)) (qA b)) mc ms (qA b)
section QNEW
variable {D : va_G} {b : Nat} {l : Launch} {own : String} {h : qH} {z : Nat} {y : MethodName} {cy : ByteArray} {nl f lo mc ms : Nat} {rt : FieldType} {av : List Value} {L : List (Nat × Value)}
theorem q_p {post : Int32 → qH → Nat → Prop} (hy : plainName y.cls = true) (ho : y.cls = own) (hnl : (lg_sl av).length ≤ nl) (hL : lv_args 0 av = L) (body : ∀ X, qC X D b l ({ frames := f, cells := mc, slots := ms, locals := lo } : Room) cy own nl → (∀ (h1 : qH) (z1 k1 n1 : Nat) (r : Int32) (pc : Nat) (L : List (Nat × Value)), k1 ≤ mc → n1 ≤ ms → decode cy pc = .ok (.ireturn, 1) → narrow rt (.int r) = .int r → post r h1 z1 → qG X k1 n1 z1 h1 pc L [.int r]) → qG X 0 0 z h 0 L []) : qMp l D b y cy nl rt f lo mc ms av h z post := by
  refine Met.ofW (cc := cy) (maxL := nl) (ret := (some rt)) hy rfl ?_
  intro p e s m args below meth c s₁ B hml hv
  obtain ⟨rfl, hP, hK⟩ := hv
  have hts := atoms_spec (ws := wm y cy nl (some rt)) B.pre
  rw [lg_entry_eq]
  have hlv := lv_entry av (n := nl) hnl
  rw [hL] at hlv
  generalize (lg_sl av ++ List.replicate (nl - (lg_sl av).length) Slot.unset).toArray = ls at hlv ⊢
  refine body (D, b, p, l, e, ({ frames := f, cells := mc, slots := ms, locals := lo } : Room), s, m, av.toArray, below, meth, c, nl, MQ below (va_Qi (S := qH × Nat) (fun r u => post r u.1 u.2) (fun u t => qP D b u.1 u.2 t.heap) (qA b)) av.toArray s mc ms (qA b)) ⟨rfl, rfl, rfl, rfl, rfl, B.exec, B.bytes, hml, by rw [← ho]; exact findClass_of_methodNamed B.named, fun w hw => hts w (List.mem_cons_of_mem _ hw), hK, by rw [hP.1]; exact hP.2.1⟩ (fun h1 z1 k1 n1 r pc L hk hn1 hdg hn hpost => fun H locs ls hP hS hl => qW_mono (qMQ_mono hk hn1) (W.zret B.exec B.bytes B.returns hn (fun t ht hW => ⟨⟨r, (h1, z1), rfl, hpost, by show qP _ _ _ _ t.heap; rw [ht]; exact hP⟩, hS.F ht⟩) hS.2.2 hdg B.notSynchronized)) s.heap [] ls hP va_S.rf hlv
theorem q_n {post : Option Nat → qH → Prop} (hy : plainName y.cls = true) (ho : y.cls = own) (hnl : (lg_sl av).length ≤ nl) (hL : lv_args 0 av = L) (hrt : (∃ n, rt = .object n) ∨ ∃ t, rt = .array t) (body : ∀ X, qC X D b l ({ frames := f, cells := mc, slots := ms, locals := lo } : Room) cy own nl → (∀ (h1 : qH) (r : Option Nat) (pc : Nat) (L : List (Nat × Value)), decode cy pc = .ok (.areturn, 1) → post r h1 → qG X mc ms (z + mc) h1 pc L [va_rf r]) → qG X 0 0 z h 0 L []) : qMn l D b y cy nl rt f lo mc ms av h z post := by
  refine Met.ofW (cc := cy) (maxL := nl) (ret := (some rt)) hy rfl ?_
  intro p e s m args below meth c s₁ B hml hv
  obtain ⟨rfl, hP, hK⟩ := hv
  have hts := atoms_spec (ws := wm y cy nl (some rt)) B.pre
  rw [lg_entry_eq]
  have hlv := lv_entry av (n := nl) hnl
  rw [hL] at hlv
  generalize (lg_sl av ++ List.replicate (nl - (lg_sl av).length) Slot.unset).toArray = ls at hlv ⊢
  refine body (D, b, p, l, e, ({ frames := f, cells := mc, slots := ms, locals := lo } : Room), s, m, av.toArray, below, meth, c, nl, MQ below (va_Qq post (qB D b (z + mc)) (qA b)) av.toArray s mc ms (qA b)) ⟨rfl, rfl, rfl, rfl, rfl, B.exec, B.bytes, hml, by rw [← ho]; exact findClass_of_methodNamed B.named, fun w hw => hts w (List.mem_cons_of_mem _ hw), hK, by rw [hP.1]; exact hP.2.1⟩ (fun h1 r pc L hdg hpost => fun H locs ls hP hS hl => W.aret B.exec B.bytes B.returns hrt (by cases r with | none => exact Or.inl rfl | some x => exact Or.inr ⟨x, rfl⟩) (fun t ht hW => ⟨⟨r, h1, rfl, hpost, by show qP _ _ _ _ t.heap; rw [ht]; exact hP⟩, hS.F ht⟩) hS.2.2 hdg B.notSynchronized) s.heap [] ls hP va_S.rf hlv
end QNEW
section QNCALL
variable {X : qX} {D : va_G} {b : Nat} {l : Launch} {R : Room} {cc : ByteArray} {own : String} {nL : Nat} {k n z : Nat} {h : qH} {pc pc' : Nat} {L : List (Nat × Value)} {st stk : List Value}
variable {y : MethodName} {cy : ByteArray} {nl f lo mc ms na index : Nat} {rt : FieldType} {As : List Value}
theorem g_callSn (C : qC X D b l R cc own nL) {post : Option Nat → qH → Prop}  (hM : qMn l D b y cy nl rt f lo mc ms As h z post) (hw : qWS own index y cy nl (some rt) na)  (hR : f + 1 ≤ R.frames ∧ 8 + (nl + 11) + lo ≤ R.locals) (hn : As.length = na) (hstk : stk = As.reverse ++ st) (hcat : (st.map fun v => v.category).sum ≤ 8) (hf : k + mc ≤ R.cells ∧ n + ms ≤ R.slots) (hdg : decode cc pc = .ok (.invokestatic index, 3)) (hp : pc + 3 = pc') (kk : ∀ r h1, post r h1 → qG X (k + mc) (n + ms) (z + mc) h1 pc' L (va_rf r :: st)) : qG X k n z h pc L stk := by
  obtain ⟨D0, b0, p, l0, e, R0, s, m, args, below, meth, c, nL0, Q⟩ := X
  obtain ⟨rfl, rfl, rfl, rfl, rfl, hx, hb, hml, hown, hts, hK, hbs⟩ := C
  subst hp
  intro H locs ls hP hS hl
  exact va_callq (va_runS (As := As) (rest := st) ⟨hx, hb, hml, hown, hts⟩ hM (va_cwS na hts (AW_app (a := [.methodLink own index y, .static y, .initialized y.cls]) (by intro w hw'; simp only [List.mem_cons, List.not_mem_nil, or_false] at hw'; rcases hw' with rfl | rfl | rfl <;> first | exact hw.1.1 | exact hw.1.2.1 | exact hw.1.2.2.1) (AW_in hw.1.2.2.2)) rfl rfl rfl hw.2 hR) ⟨qBlind, fun U hU hW => ⟨rfl, by rw [hU]; exact hP, hK.warm hW⟩⟩ rfl hn hl.1 hstk (lv_room hcat) hdg hf) hS (fun q _ h => h) (fun q h => h) (fun r u t H1 locs ht hvm hpost hB hz hkeep hS => kk r u hpost H1 locs ls (by rw [← ht]; exact hB) hS hl)
end QNCALL
set_option maxHeartbeats 4000000 in
set_option maxRecDepth 100000 in
theorem kn0_X11_newcomer (l : Launch) (D : va_G) (b z : Nat) {h : qH} (c t : Int32) : qMn l D b yX11_newcomer cX11_newcomer 3 (.object "EarlyGauge$Keeper") 4 86 1 3 [.int 0, .int c, .int t] h z (fun r h' => (r = some z ∧ KpAt h' z 4 c t 0) ∧ ∀ q, q ≠ z → h' q = h q) := by
  refine q_n (L := [(0, .int (0)), (1, .int (c)), (2, .int (t))]) (own := RX11) (by decide) rfl (Nat.le_of_ble_eq_true rfl) rfl (by exact Or.inl ⟨_, rfl⟩) ?_
  intro X C ret
  have hF : ∀ q, q ≠ z → h q = h q := fun _ _ => rfl
  refine g_iload_n C 0 dX11_newcomer_0 rfl rfl rfl ?_
  refine g_tableOut C dX11_newcomer_1 (tgt := 72) (swo_1_4 (by decide) (by decide) (by decide) (by decide)) (by decide) ?_
  refine g_new C (ci := 4) tyX4 tyX4_ok hin_4 (fs := [.int (0), .int (0), .int (0)]) ⟨(AW_m 138 (by decide +kernel) rfl), (AW_m 478 (by decide +kernel) rfl), (AW_m 51 (by decide +kernel) rfl)⟩ rfl (fun j hj => match j, hj with | 0, _ => rfl | 1, _ => rfl | 2, _ => rfl | (m + 3), h => absurd h (by omega)) ⟨Nat.le_of_ble_eq_true rfl, Nat.le_of_ble_eq_true rfl⟩ dX11_newcomer_72 (pc' := 75) rfl (fun h1 e2 o3 => ?_)
  have hN3 : h1 (z) = some (.inr (4, [.int (0), .int (0), .int (0)])) := e2
  have hF : ∀ q, (q ≠ z) → h1 q = h q := fun q hq => (o3 q (by omega)).trans (hF q hq)
  show qG X 1 3 (z + 1) h1 75 [(0, .int (0)), (1, .int (c)), (2, .int (t))] [.ref (z)]
  refine g_dup C rfl dX11_newcomer_75 rfl ?_
  refine g_iload_n C 1 dX11_newcomer_76 rfl rfl rfl ?_
  refine g_iload_n C 2 dX11_newcomer_77 rfl rfl rfl ?_
  refine g_callIc C (As := [.int (c), .int (t)]) (k4_X4_init l D b (z + 1) c t hN3) hw_11_322 (by decide) rfl rfl (Nat.le_of_ble_eq_true rfl) ⟨Nat.le_of_ble_eq_true rfl, Nat.le_of_ble_eq_true rfl⟩ dX11_newcomer_78 (pc' := 81) rfl ?_
  rintro h4 ⟨hO, fr⟩
  have hF : ∀ q, q ≠ z → h4 q = h q := fun q hq => (fr q hq).trans (hF q hq)
  show qG X 1 3 (z + 1) h4 81 [(0, .int (0)), (1, .int (c)), (2, .int (t))] [.ref (z)]
  exact ret _ (some (z)) _ _ dX11_newcomer_81 (⟨⟨rfl, hO⟩, hF⟩)
set_option maxHeartbeats 4000000 in
set_option maxRecDepth 100000 in
theorem kn1_X11_newcomer (l : Launch) (D : va_G) (b z : Nat) {h : qH} (c t : Int32) : qMn l D b yX11_newcomer cX11_newcomer 3 (.object "EarlyGauge$Keeper") 4 86 1 3 [.int 1, .int c, .int t] h z (fun r h' => (r = some z ∧ KpAt h' z 2 c t 0) ∧ ∀ q, q ≠ z → h' q = h q) := by
  refine q_n (L := [(0, .int (1)), (1, .int (c)), (2, .int (t))]) (own := RX11) (by decide) rfl (Nat.le_of_ble_eq_true rfl) rfl (by exact Or.inl ⟨_, rfl⟩) ?_
  intro X C ret
  have hF : ∀ q, q ≠ z → h q = h q := fun _ _ => rfl
  refine g_iload_n C 0 dX11_newcomer_0 rfl rfl rfl ?_
  refine g_tableIn C dX11_newcomer_1 (off := 31) (tgt := 32) (by decide) (by decide) (by decide) (by decide) ?_
  refine g_new C (ci := 2) tyX2 tyX2_ok hin_2 (fs := [.int (0), .int (0), .int (0)]) ⟨(AW_m 425 (by decide +kernel) rfl), (AW_m 426 (by decide +kernel) rfl), (AW_m 52 (by decide +kernel) rfl)⟩ rfl (fun j hj => match j, hj with | 0, _ => rfl | 1, _ => rfl | 2, _ => rfl | (m + 3), h => absurd h (by omega)) ⟨Nat.le_of_ble_eq_true rfl, Nat.le_of_ble_eq_true rfl⟩ dX11_newcomer_32 (pc' := 35) rfl (fun h1 e2 o3 => ?_)
  have hN3 : h1 (z) = some (.inr (2, [.int (0), .int (0), .int (0)])) := e2
  have hF : ∀ q, (q ≠ z) → h1 q = h q := fun q hq => (o3 q (by omega)).trans (hF q hq)
  show qG X 1 3 (z + 1) h1 35 [(0, .int (1)), (1, .int (c)), (2, .int (t))] [.ref (z)]
  refine g_dup C rfl dX11_newcomer_35 rfl ?_
  refine g_iload_n C 1 dX11_newcomer_36 rfl rfl rfl ?_
  refine g_iload_n C 2 dX11_newcomer_37 rfl rfl rfl ?_
  refine g_callIc C (As := [.int (c), .int (t)]) (k2_X2_init l D b (z + 1) c t hN3) hw_11_311 (by decide) rfl rfl (Nat.le_of_ble_eq_true rfl) ⟨Nat.le_of_ble_eq_true rfl, Nat.le_of_ble_eq_true rfl⟩ dX11_newcomer_38 (pc' := 41) rfl ?_
  rintro h4 ⟨hO, fr⟩
  have hF : ∀ q, q ≠ z → h4 q = h q := fun q hq => (fr q hq).trans (hF q hq)
  show qG X 1 3 (z + 1) h4 41 [(0, .int (1)), (1, .int (c)), (2, .int (t))] [.ref (z)]
  exact ret _ (some (z)) _ _ dX11_newcomer_41 (⟨⟨rfl, hO⟩, hF⟩)
set_option maxHeartbeats 4000000 in
set_option maxRecDepth 100000 in
theorem kn2_X11_newcomer (l : Launch) (D : va_G) (b z : Nat) {h : qH} (c t : Int32) : qMn l D b yX11_newcomer cX11_newcomer 3 (.object "EarlyGauge$Keeper") 4 86 1 3 [.int 2, .int c, .int t] h z (fun r h' => (r = some z ∧ KpAt h' z 6 c t 0) ∧ ∀ q, q ≠ z → h' q = h q) := by
  refine q_n (L := [(0, .int (2)), (1, .int (c)), (2, .int (t))]) (own := RX11) (by decide) rfl (Nat.le_of_ble_eq_true rfl) rfl (by exact Or.inl ⟨_, rfl⟩) ?_
  intro X C ret
  have hF : ∀ q, q ≠ z → h q = h q := fun _ _ => rfl
  refine g_iload_n C 0 dX11_newcomer_0 rfl rfl rfl ?_
  refine g_tableIn C dX11_newcomer_1 (off := 41) (tgt := 42) (by decide) (by decide) (by decide) (by decide) ?_
  refine g_new C (ci := 6) tyX6 tyX6_ok hin_6 (fs := [.int (0), .int (0), .int (0)]) ⟨(AW_m 450 (by decide +kernel) rfl), (AW_m 451 (by decide +kernel) rfl), (AW_m 53 (by decide +kernel) rfl)⟩ rfl (fun j hj => match j, hj with | 0, _ => rfl | 1, _ => rfl | 2, _ => rfl | (m + 3), h => absurd h (by omega)) ⟨Nat.le_of_ble_eq_true rfl, Nat.le_of_ble_eq_true rfl⟩ dX11_newcomer_42 (pc' := 45) rfl (fun h1 e2 o3 => ?_)
  have hN3 : h1 (z) = some (.inr (6, [.int (0), .int (0), .int (0)])) := e2
  have hF : ∀ q, (q ≠ z) → h1 q = h q := fun q hq => (o3 q (by omega)).trans (hF q hq)
  show qG X 1 3 (z + 1) h1 45 [(0, .int (2)), (1, .int (c)), (2, .int (t))] [.ref (z)]
  refine g_dup C rfl dX11_newcomer_45 rfl ?_
  refine g_iload_n C 1 dX11_newcomer_46 rfl rfl rfl ?_
  refine g_iload_n C 2 dX11_newcomer_47 rfl rfl rfl ?_
  refine g_callIc C (As := [.int (c), .int (t)]) (k6_X6_init l D b (z + 1) c t hN3) hw_11_315 (by decide) rfl rfl (Nat.le_of_ble_eq_true rfl) ⟨Nat.le_of_ble_eq_true rfl, Nat.le_of_ble_eq_true rfl⟩ dX11_newcomer_48 (pc' := 51) rfl ?_
  rintro h4 ⟨hO, fr⟩
  have hF : ∀ q, q ≠ z → h4 q = h q := fun q hq => (fr q hq).trans (hF q hq)
  show qG X 1 3 (z + 1) h4 51 [(0, .int (2)), (1, .int (c)), (2, .int (t))] [.ref (z)]
  exact ret _ (some (z)) _ _ dX11_newcomer_51 (⟨⟨rfl, hO⟩, hF⟩)
set_option maxHeartbeats 4000000 in
set_option maxRecDepth 100000 in
theorem kn3_X11_newcomer (l : Launch) (D : va_G) (b z : Nat) {h : qH} (c t : Int32) : qMn l D b yX11_newcomer cX11_newcomer 3 (.object "EarlyGauge$Keeper") 4 86 1 3 [.int 3, .int c, .int t] h z (fun r h' => (r = some z ∧ KpAt h' z 1 c t 0) ∧ ∀ q, q ≠ z → h' q = h q) := by
  refine q_n (L := [(0, .int (3)), (1, .int (c)), (2, .int (t))]) (own := RX11) (by decide) rfl (Nat.le_of_ble_eq_true rfl) rfl (by exact Or.inl ⟨_, rfl⟩) ?_
  intro X C ret
  have hF : ∀ q, q ≠ z → h q = h q := fun _ _ => rfl
  refine g_iload_n C 0 dX11_newcomer_0 rfl rfl rfl ?_
  refine g_tableIn C dX11_newcomer_1 (off := 51) (tgt := 52) (by decide) (by decide) (by decide) (by decide) ?_
  refine g_new C (ci := 1) tyX1 tyX1_ok hin_1 (fs := [.int (0), .int (0), .int (0)]) ⟨(AW_m 460 (by decide +kernel) rfl), (AW_m 461 (by decide +kernel) rfl), (AW_m 54 (by decide +kernel) rfl)⟩ rfl (fun j hj => match j, hj with | 0, _ => rfl | 1, _ => rfl | 2, _ => rfl | (m + 3), h => absurd h (by omega)) ⟨Nat.le_of_ble_eq_true rfl, Nat.le_of_ble_eq_true rfl⟩ dX11_newcomer_52 (pc' := 55) rfl (fun h1 e2 o3 => ?_)
  have hN3 : h1 (z) = some (.inr (1, [.int (0), .int (0), .int (0)])) := e2
  have hF : ∀ q, (q ≠ z) → h1 q = h q := fun q hq => (o3 q (by omega)).trans (hF q hq)
  show qG X 1 3 (z + 1) h1 55 [(0, .int (3)), (1, .int (c)), (2, .int (t))] [.ref (z)]
  refine g_dup C rfl dX11_newcomer_55 rfl ?_
  refine g_iload_n C 1 dX11_newcomer_56 rfl rfl rfl ?_
  refine g_iload_n C 2 dX11_newcomer_57 rfl rfl rfl ?_
  refine g_callIc C (As := [.int (c), .int (t)]) (k1_X1_init l D b (z + 1) c t hN3) hw_11_318 (by decide) rfl rfl (Nat.le_of_ble_eq_true rfl) ⟨Nat.le_of_ble_eq_true rfl, Nat.le_of_ble_eq_true rfl⟩ dX11_newcomer_58 (pc' := 61) rfl ?_
  rintro h4 ⟨hO, fr⟩
  have hF : ∀ q, q ≠ z → h4 q = h q := fun q hq => (fr q hq).trans (hF q hq)
  show qG X 1 3 (z + 1) h4 61 [(0, .int (3)), (1, .int (c)), (2, .int (t))] [.ref (z)]
  exact ret _ (some (z)) _ _ dX11_newcomer_61 (⟨⟨rfl, hO⟩, hF⟩)
set_option maxHeartbeats 4000000 in
set_option maxRecDepth 100000 in
theorem kn4_X11_newcomer (l : Launch) (D : va_G) (b z : Nat) {h : qH} (c t : Int32) : qMn l D b yX11_newcomer cX11_newcomer 3 (.object "EarlyGauge$Keeper") 4 86 1 3 [.int 4, .int c, .int t] h z (fun r h' => (r = some z ∧ KpAt h' z 5 c t 0) ∧ ∀ q, q ≠ z → h' q = h q) := by
  refine q_n (L := [(0, .int (4)), (1, .int (c)), (2, .int (t))]) (own := RX11) (by decide) rfl (Nat.le_of_ble_eq_true rfl) rfl (by exact Or.inl ⟨_, rfl⟩) ?_
  intro X C ret
  have hF : ∀ q, q ≠ z → h q = h q := fun _ _ => rfl
  refine g_iload_n C 0 dX11_newcomer_0 rfl rfl rfl ?_
  refine g_tableIn C dX11_newcomer_1 (off := 61) (tgt := 62) (by decide) (by decide) (by decide) (by decide) ?_
  refine g_new C (ci := 5) tyX5 tyX5_ok hin_5 (fs := [.int (0), .int (0), .int (0)]) ⟨(AW_m 469 (by decide +kernel) rfl), (AW_m 470 (by decide +kernel) rfl), (AW_m 55 (by decide +kernel) rfl)⟩ rfl (fun j hj => match j, hj with | 0, _ => rfl | 1, _ => rfl | 2, _ => rfl | (m + 3), h => absurd h (by omega)) ⟨Nat.le_of_ble_eq_true rfl, Nat.le_of_ble_eq_true rfl⟩ dX11_newcomer_62 (pc' := 65) rfl (fun h1 e2 o3 => ?_)
  have hN3 : h1 (z) = some (.inr (5, [.int (0), .int (0), .int (0)])) := e2
  have hF : ∀ q, (q ≠ z) → h1 q = h q := fun q hq => (o3 q (by omega)).trans (hF q hq)
  show qG X 1 3 (z + 1) h1 65 [(0, .int (4)), (1, .int (c)), (2, .int (t))] [.ref (z)]
  refine g_dup C rfl dX11_newcomer_65 rfl ?_
  refine g_iload_n C 1 dX11_newcomer_66 rfl rfl rfl ?_
  refine g_iload_n C 2 dX11_newcomer_67 rfl rfl rfl ?_
  refine g_callIc C (As := [.int (c), .int (t)]) (k5_X5_init l D b (z + 1) c t hN3) hw_11_321 (by decide) rfl rfl (Nat.le_of_ble_eq_true rfl) ⟨Nat.le_of_ble_eq_true rfl, Nat.le_of_ble_eq_true rfl⟩ dX11_newcomer_68 (pc' := 71) rfl ?_
  rintro h4 ⟨hO, fr⟩
  have hF : ∀ q, q ≠ z → h4 q = h q := fun q hq => (fr q hq).trans (hF q hq)
  show qG X 1 3 (z + 1) h4 71 [(0, .int (4)), (1, .int (c)), (2, .int (t))] [.ref (z)]
  exact ret _ (some (z)) _ _ dX11_newcomer_71 (⟨⟨rfl, hO⟩, hF⟩)
def psN (σ : sg) (kd : Nat) (c t : Int32) : sg := uB (uB (uB (uA (uN σ 8 (gN σ 8 + 1)) 9 (va_up (gA σ 9) (gN σ 8) kd)) 10 (upd (gB σ 10) (gN σ 8) c)) 11 (upd (gB σ 11) (gN σ 8) t)) 12 (upd (gB σ 12) (gN σ 8) 0)
noncomputable def oPerson (σ : sg) (k c t : Int32) : Int32 × sg := cIf (inP 0 4 k ∧ inP 1 9 c ∧ inP 1 9 t) (if 0 < gN σ 3 then (if gN σ 8 < 4 then (nI (gN σ 8), psN σ k.toNatClampNeg c t) else (-104, σ)) else (-103, σ)) (-102, σ)
theorem ClPe.add {D : va_G} {h h1 h2 : qH} {x z : Nat} {σ : sg} {kd : Nat} {c t : Int32} (hkd : kd < 5) (hz : x + 134 ≤ z) {qa : Nat → Nat} {pf : Nat → Option Nat} (hn : gN σ 8 < 4) (hpf : h2 (x + 39) = some (cQ D 4 (va_up pf (gN σ 8) (some z)))) (hpf1 : ∀ i, i < gN σ 8 → pf i = some (qa i)) (hpf0 : ∀ i, gN σ 8 ≤ i → i < 4 → pf i = none) (hkp : ∀ i, i < gN σ 8 → gA σ 9 i < 5 ∧ KpAt h2 (qa i) (kci (gA σ 9 i)) (gB σ 10 i) (gB σ 11 i) (gB σ 12 i)) (hnew : KpAt h2 z (kci kd) c t 0) (hqx : ∀ i, i < gN σ 8 → x + 134 ≤ qa i) (hqz : ∀ i, i < gN σ 8 → qa i < z) (hqj : ∀ i j, i < gN σ 8 → j < gN σ 8 → qa i = qa j → i = j) : ClPe D h2 x (psN σ kd c t) := by
  have key : ∀ i, i < gN σ 8 + 1 → i < gN σ 8 ∨ i = gN σ 8 := fun i hi => by omega
  refine ⟨va_up qa (gN σ 8) z, ⟨by show gN σ 8 + 1 ≤ 4; omega, ⟨_, hpf, fun i hi => ?_, fun i h1 h2 => ?_⟩, fun i hi => ?_⟩, fun i hi => ?_, fun i j hi hj e => ?_⟩
  · rcases key i hi with g | g
    · simp only [va_up, if_neg (Nat.ne_of_lt g)]; exact hpf1 i g
    · subst g; simp only [va_up, if_true]
  · have h1' : gN σ 8 + 1 ≤ i := h1
    simp only [va_up, if_neg (show i ≠ gN σ 8 by omega)]; exact hpf0 i (by omega) h2
  · show va_up (gA σ 9) (gN σ 8) kd i < 5 ∧ KpAt h2 (va_up qa (gN σ 8) z i) (kci (va_up (gA σ 9) (gN σ 8) kd i)) (upd (gB σ 10) (gN σ 8) c i) (upd (gB σ 11) (gN σ 8) t i) (upd (gB σ 12) (gN σ 8) 0 i)
    rcases key i hi with g | g
    · simp only [va_up, upd, if_neg (Nat.ne_of_lt g)]; exact hkp i g
    · subst g; simp only [va_up, upd, if_true]; exact ⟨hkd, hnew⟩
  · rcases key i hi with g | g
    · simp only [va_up, if_neg (Nat.ne_of_lt g)]; exact hqx i g
    · subst g; simp only [va_up, if_true]; exact hz
  · rcases key i hi with g | g <;> rcases key j hj with g2 | g2
    · simp only [va_up, if_neg (Nat.ne_of_lt g), if_neg (Nat.ne_of_lt g2)] at e; exact hqj i j g g2 e
    · subst g2; simp only [va_up, if_neg (Nat.ne_of_lt g), if_true] at e; have := hqz i g; omega
    · subst g; simp only [va_up, if_neg (Nat.ne_of_lt g2), if_true] at e; have := hqz j g2; omega
    · omega
set_option maxHeartbeats 4000000 in
set_option maxRecDepth 100000 in
theorem k_X11_person (l : Launch) (D : va_G) (b z : Nat) {h : qH} {x : Nat} {σ : sg} (hC : Cls D h x σ) (hz : x + 134 ≤ z) (hlt : ∀ q e, h q = some e → q < z) (k c t : Int32) : qMp l D b yX11_person cX11_person 5 .int 5 108 1 3 [.ref x, .int k, .int c, .int t] h z (fun r h' z' => (r = (oPerson σ k c t).1 ∧ Cls D h' x (oPerson σ k c t).2) ∧ (∀ q, x + 118 ≤ q → q < x + 134 → h' q = h q) ∧ z ≤ z' ∧ z' ≤ z + 1) := by
  refine q_p (L := [(0, .ref (x)), (1, .int (k)), (2, .int (c)), (3, .int (t))]) (own := RX11) (by decide) rfl (Nat.le_of_ble_eq_true rfl) rfl ?_
  intro X C ret
  have hO : ∀ q, (q < x + 134 ∧ ¬ q = x + 39) → h q = h q := fun _ _ => rfl
  obtain ⟨hIn, hGa, hSt, hPg, hOl, hPe, hBk, hTr, hIm⟩ := id hC
  replace hGa : GaAt h x (nI (gN σ 1)) := hGa
  replace hSt : StAt D h (x + 1) (tnS σ) (nI (gN σ 3)) (nI (gN σ 4)) := hSt
  replace hPg : PgAt D h (x + 3) (gB σ 17) (nI (gN σ 16)) := hPg
  replace hBk : BkAt D h (x + 40) (gB σ 14) (gB σ 15) (nI (gN σ 13)) := hBk
  obtain ⟨hI0, hI3, hI03, hI4, hI6, hI8, hI13, hI16, hIt, hIk, hI1, hIim, hI25, hI26, hI08⟩ := id hIn
  have hOl1 := hOl.1.1
  obtain ⟨np, kd, co, lo, pa, hnpE, hkdE, hcoE, hloE, hpaE⟩ : ∃ np kd co lo pa, gN σ 8 = np ∧ gA σ 9 = kd ∧ gB σ 10 = co ∧ gB σ 11 = lo ∧ gB σ 12 = pa := ⟨_, _, _, _, _, rfl, rfl, rfl, rfl, rfl⟩
  obtain ⟨qa, hPe, hqx, hqj⟩ := hPe
  rw [hnpE, hkdE, hcoE, hloE, hpaE] at hPe
  rw [hnpE] at hqx hqj
  obtain ⟨hnp, ⟨pf, hpf, hpf1, hpf0⟩, hkp⟩ := hPe
  refine g_iload_n C 1 dX11_person_0 rfl rfl rfl ?_
  refine g_if_lt C dX11_person_1 (tgt := 23) (by decide) (pc' := 4) rfl ?_ ?_
  · intro c1
    refine g_bipush C (v := -102) dX11_person_23 (by decide) rfl ?_
    exact ret _ _ _ _ _ _ _ (Nat.le_of_ble_eq_true rfl) (Nat.le_of_ble_eq_true rfl) dX11_person_25 rfl (⟨⟨by unfold oPerson; rw [cIf_f (fun g => (inP0_to (hi := 4) (by decide) g.1).1 c1)], by unfold oPerson; rw [cIf_f (fun g => (inP0_to (hi := 4) (by decide) g.1).1 c1)]; exact hC⟩, fun _ _ _ => rfl, by omega, by omega⟩)
  · intro c1
    refine g_iload_n C 1 dX11_person_4 rfl rfl rfl ?_
    refine g_iconst C (v := 5) dX11_person_5 (by decide) rfl ?_
    refine g_icmp_ge C dX11_person_6 (tgt := 23) (by decide) (pc' := 9) rfl ?_ ?_
    · intro c6
      refine g_bipush C (v := -102) dX11_person_23 (by decide) rfl ?_
      exact ret _ _ _ _ _ _ _ (Nat.le_of_ble_eq_true rfl) (Nat.le_of_ble_eq_true rfl) dX11_person_25 rfl (⟨⟨by unfold oPerson; rw [cIf_f (fun g => absurd (inP4_lt g.1) (Int32.not_lt.mpr c6))], by unfold oPerson; rw [cIf_f (fun g => absurd (inP4_lt g.1) (Int32.not_lt.mpr c6))]; exact hC⟩, fun _ _ _ => rfl, by omega, by omega⟩)
    · intro c6
      refine g_iload_n C 2 dX11_person_9 rfl rfl rfl ?_
      refine g_callSi C (As := [.int (c)]) (kp_X11_isPrice l D b z h (c)) hw_11_137 (by decide) rfl rfl (Nat.le_of_ble_eq_true rfl) ⟨Nat.le_of_ble_eq_true rfl, Nat.le_of_ble_eq_true rfl⟩ dX11_person_10 (pc' := 13) rfl ?_
      rintro r1 h9 ⟨⟨er, hp10⟩ | ⟨er, hp10⟩, e9⟩
      · subst h9; subst er
        refine g_if_eq C dX11_person_13 (tgt := 23) (by decide) (pc' := 16) rfl (fun c13 => absurd c13 (by decide)) (fun _ => ?_)
        refine g_iload_n C 3 dX11_person_16 rfl rfl rfl ?_
        refine g_callSi C (As := [.int (t)]) (kp_X11_isPrice l D b z h (t)) hw_11_137 (by decide) rfl rfl (Nat.le_of_ble_eq_true rfl) ⟨Nat.le_of_ble_eq_true rfl, Nat.le_of_ble_eq_true rfl⟩ dX11_person_17 (pc' := 20) rfl ?_
        rintro r2 h9 ⟨⟨er, hp17⟩ | ⟨er, hp17⟩, e9⟩
        · subst h9; subst er
          refine g_if_ne C dX11_person_20 (tgt := 26) (by decide) (pc' := 23) rfl (fun _ => ?_) (fun c20 => absurd c20 (by decide))
          have hk4 := in5_of c1 (Int32.not_le.mp c6)
          have hAll : inP 0 4 k ∧ inP 1 9 c ∧ inP 1 9 t := ⟨hk4, hp10, hp17⟩
          refine g_aload_n C 0 dX11_person_26 rfl rfl rfl ?_
          refine gf_11_19 C (hGa) (v := .ref (x + 1)) rfl dX11_person_27 rfl ?_
          refine g_callVi C (As := []) (q := (RX9, TX9, 3)) (k_X9_isRead l D b z hIn.e hSt) hw_11_103 (hSt.1) rfl (by decide) rfl rfl (Nat.le_of_ble_eq_true rfl) ⟨Nat.le_of_ble_eq_true rfl, Nat.le_of_ble_eq_true rfl⟩ dX11_person_30 (pc' := 33) rfl ?_
          rintro r3 h9 ⟨⟨er, hp30⟩ | ⟨er, hp30⟩, e9⟩
          · subst h9; subst er
            refine g_if_ne C dX11_person_33 (tgt := 39) (by decide) (pc' := 36) rfl (fun _ => ?_) (fun c33 => absurd c33 (by decide))
            refine g_iconst C (v := 0) dX11_person_39 (by decide) rfl ?_
            refine g_istore C ([(4, .int (0)), (0, .ref (x)), (1, .int (k)), (2, .int (c)), (3, .int (t))]) dX11_person_40 (by decide) rfl rfl ?_
            have loop42 : ∀ (N : Nat) (i : Nat), 4 - i < N → (i ≤ np) → qG X 0 0 z h 42 [(4, .int (nI (i))), (3, .int (t)), (2, .int (c)), (1, .int (k)), (0, .ref (x))] [] := by
              intro N
              induction N with
              | zero => intro i hm; exact absurd hm (Nat.not_lt_zero _)
              | succ N ih42 =>
                intro i hm hi
                refine g_iload C 0 dX11_person_42 rfl rfl ?_
                refine g_iconst C (v := 4) dX11_person_44 (by decide) rfl ?_
                refine g_icmp_ge C dX11_person_45 (tgt := 80) (by decide) (pc' := 48) rfl ?_ ?_
                · intro c45
                  replace c45 := (nI_leI (a := 4) (b := i) (by omega) (by omega)).mp c45
                  refine g_bipush C (v := -104) dX11_person_80 (by decide) rfl ?_
                  exact ret _ _ _ _ _ _ _ (Nat.le_of_ble_eq_true rfl) (Nat.le_of_ble_eq_true rfl) dX11_person_82 rfl (⟨⟨by unfold oPerson; rw [cIf_t hAll, if_pos hp30, if_neg (by omega)], by unfold oPerson; rw [cIf_t hAll, if_pos hp30, if_neg (by omega)]; exact hC⟩, fun _ _ _ => rfl, by omega, by omega⟩)
                · intro c45
                  replace c45 := (not_congr (nI_leI (a := 4) (b := i) (by omega) (by omega))).mp c45
                  rcases Nat.lt_or_ge i np with hin | hin
                  · skip
                    refine g_aload_n C 4 dX11_person_48 rfl rfl rfl ?_
                    refine gf_11_34 C (hGa) (v := .ref (x + 39)) rfl dX11_person_49 rfl ?_
                    refine g_iload C 0 dX11_person_52 rfl rfl ?_
                    refine g_aaldQ C (hpf) (j := i) rfl (by omega) (by decide) (hpf1 _ hin) dX11_person_54 rfl ?_
                    refine g_ifnonnull C dX11_person_55 (tgt := 74) (by decide) ?_
                    refine g_iinc C (v := nI (i + 1)) 0 ([(4, .int (nI (i + 1))), (3, .int (t)), (2, .int (c)), (1, .int (k)), (0, .ref (x))]) dX11_person_74 rfl (nI_1 _) (by decide) rfl rfl ?_
                    refine g_goto C dX11_person_77 (tgt := 42) (by decide) ?_
                    exact ih42 (i + 1) (by omega) (by omega)
                  · skip
                    refine g_aload_n C 4 dX11_person_48 rfl rfl rfl ?_
                    refine gf_11_34 C (hGa) (v := .ref (x + 39)) rfl dX11_person_49 rfl ?_
                    refine g_iload C 0 dX11_person_52 rfl rfl ?_
                    refine g_aaldQN C (hpf) (j := i) rfl (by omega) (by decide) (hpf0 _ hin (by omega)) dX11_person_54 rfl ?_
                    refine g_ifnonnullN C dX11_person_55 rfl ?_
                    refine g_aload_n C 4 dX11_person_58 rfl rfl rfl ?_
                    refine gf_11_34 C (hGa) (v := .ref (x + 39)) rfl dX11_person_59 rfl ?_
                    refine g_iload C 0 dX11_person_62 rfl rfl ?_
                    refine g_iload_n C 3 dX11_person_64 rfl rfl rfl ?_
                    refine g_iload_n C 2 dX11_person_65 rfl rfl rfl ?_
                    refine g_iload_n C 1 dX11_person_66 rfl rfl rfl ?_
                    have hin0 : i = gN σ 8 := by omega
                    have hk5 : k = 0 ∨ k = 1 ∨ k = 2 ∨ k = 3 ∨ k = 4 := in04 hk4
                    rcases hk5 with rfl | rfl | rfl | rfl | rfl
                    · skip
                      refine g_callSn C (As := [.int (0), .int (c), .int (t)]) (kn0_X11_newcomer l D b z c t) hw_11_140 (by decide) rfl rfl (Nat.le_of_ble_eq_true rfl) ⟨Nat.le_of_ble_eq_true rfl, Nat.le_of_ble_eq_true rfl⟩ dX11_person_67 (pc' := 70) rfl ?_
                      rintro rr hh0 ⟨⟨rfl, hNew⟩, fr⟩
                      have hGa : GaAt hh0 x (nI (gN σ 1)) := (fr _ (by omega)).trans hGa
                      have hSt : StAt D hh0 (x + 1) (tnS σ) (nI (gN σ 3)) (nI (gN σ 4)) := ⟨(fr _ (by omega)).trans hSt.1, (fr _ (by omega)).trans hSt.2⟩
                      have hpf : hh0 (x + 39) = some (cQ D 4 pf) := (fr _ (by omega)).trans hpf
                      have hqz : ∀ i, i < np → qa i < z := fun i hi => hlt _ _ (hkp i hi).2
                      have hkp : ∀ i, i < np → kd i < 5 ∧ KpAt hh0 (qa i) (kci (kd i)) (co i) (lo i) (pa i) := fun i hi => ⟨(hkp i hi).1, (fr _ (by have := hqz i hi; omega)).trans (hkp i hi).2⟩
                      have hO : ∀ q, (q < x + 134 ∧ ¬ q = x + 39) → hh0 q = h q := fun q hq => (fr q (by omega)).trans (hO q hq)
                      show qG X 1 3 (z + 1) hh0 70 [(4, .int (nI (i))), (3, .int (t)), (2, .int (c)), (1, .int (0)), (0, .ref (x))] [.ref (z), .int (nI (i)), .ref (x + 39)]
                      refine g_aastK C (hpf) (hNew) (j := i) rfl (by omega) (by decide) dX11_person_70 (pc' := 71) rfl (fun h4 e5 o6 => ?_)
                      have hpf : h4 (x + 39) = some (cQ D 4 (va_up pf i (some z))) := e5
                      have hkp : ∀ i, i < np → kd i < 5 ∧ KpAt h4 (qa i) (kci (kd i)) (co i) (lo i) (pa i) := fun i hi => ⟨(hkp i hi).1, (o6 _ (by have := hqx i hi; omega)).trans (hkp i hi).2⟩
                      have hGa : GaAt h4 x (nI (gN σ 1)) := (o6 _ (by omega)).trans hGa
                      have hSt : StAt D h4 (x + 1) (tnS σ) (nI (gN σ 3)) (nI (gN σ 4)) := ⟨(o6 _ (by omega)).trans hSt.1, (o6 _ (by omega)).trans hSt.2⟩
                      have hO : ∀ q, (q < x + 134 ∧ ¬ q = x + 39) → h4 q = h q := fun q hq => (o6 q (by omega)).trans (hO q hq)
                      have hNew : KpAt h4 (z) 4 (c) (t) (0) := (o6 _ (by omega)).trans hNew
                      subst hnpE hkdE hcoE hloE hpaE
                      subst hin0
                      have hPe2 := ClPe.add (σ := σ) (kd := 0) (h := h) (h1 := h) (by decide) hz (by omega) hpf hpf1 hpf0 hkp hNew hqx hqz hqj
                      have ekd : (0 : Int32).toNatClampNeg = 0 := by decide
                      refine g_iload C 0 dX11_person_71 rfl rfl ?_
                      exact ret _ _ _ _ _ _ _ (Nat.le_of_ble_eq_true rfl) (Nat.le_of_ble_eq_true rfl) dX11_person_73 rfl (⟨⟨by unfold oPerson; rw [cIf_t hAll, if_pos hp30, if_pos (by omega)], by unfold oPerson; rw [cIf_t hAll, if_pos hp30, if_pos (by omega), ekd]; exact Cls_mk (InS_mk (hI0) (hI3) (hI03) (hI4) (hI6) (by show gN σ 8 + 1 ≤ 4; omega) (hI13) (hI16) (hIt) (fun i hi => by show va_up (gA σ 9) (gN σ 8) _ i < 5; by_cases e : i = gN σ 8; simp [va_up, e]; simp only [va_up, if_neg e]; exact hIk i (by have : i < gN σ 8 + 1 := hi; omega)) (hI1) (fun g => by have := hIim g; refine ⟨this.1, this.2.1, ?_, this.2.2.2⟩; show gN σ 29 ≤ gN σ 8 + 1; omega) (hI25) (hI26) (fun g => by have : gN σ 0 = 0 := g; omega)) (ClGa.fr hC.2.1 (fun q g1 g2 => hO q (by omega))) (ClSt.fr hC.2.2.1 (fun q g1 g2 => hO q (by omega))) (ClPg.fr hC.2.2.2.1 (fun q g1 g2 => hO q (by omega))) (ClOl.fr hC.2.2.2.2.1 (fun q g1 g2 => hO q (by omega))) (hPe2) (ClBk.fr hC.2.2.2.2.2.2.1 (fun q g1 g2 => hO q (by omega))) (ClTr.fr hC.2.2.2.2.2.2.2.1 (fun q g1 g2 => hO q (by omega))) (ClIm.fr hC.2.2.2.2.2.2.2.2 (fun q g1 g2 => hO q (by omega)))⟩, fun q g1 g2 => hO q (by omega), by omega, by omega⟩)
                    · skip
                      refine g_callSn C (As := [.int (1), .int (c), .int (t)]) (kn1_X11_newcomer l D b z c t) hw_11_140 (by decide) rfl rfl (Nat.le_of_ble_eq_true rfl) ⟨Nat.le_of_ble_eq_true rfl, Nat.le_of_ble_eq_true rfl⟩ dX11_person_67 (pc' := 70) rfl ?_
                      rintro rr hh1 ⟨⟨rfl, hNew⟩, fr⟩
                      have hGa : GaAt hh1 x (nI (gN σ 1)) := (fr _ (by omega)).trans hGa
                      have hSt : StAt D hh1 (x + 1) (tnS σ) (nI (gN σ 3)) (nI (gN σ 4)) := ⟨(fr _ (by omega)).trans hSt.1, (fr _ (by omega)).trans hSt.2⟩
                      have hpf : hh1 (x + 39) = some (cQ D 4 pf) := (fr _ (by omega)).trans hpf
                      have hqz : ∀ i, i < np → qa i < z := fun i hi => hlt _ _ (hkp i hi).2
                      have hkp : ∀ i, i < np → kd i < 5 ∧ KpAt hh1 (qa i) (kci (kd i)) (co i) (lo i) (pa i) := fun i hi => ⟨(hkp i hi).1, (fr _ (by have := hqz i hi; omega)).trans (hkp i hi).2⟩
                      have hO : ∀ q, (q < x + 134 ∧ ¬ q = x + 39) → hh1 q = h q := fun q hq => (fr q (by omega)).trans (hO q hq)
                      show qG X 1 3 (z + 1) hh1 70 [(4, .int (nI (i))), (3, .int (t)), (2, .int (c)), (1, .int (1)), (0, .ref (x))] [.ref (z), .int (nI (i)), .ref (x + 39)]
                      refine g_aastO C (q := (RX2, TX2, 3)) (hpf) (hNew) rfl (by decide +kernel) (j := i) rfl (by omega) (by decide) dX11_person_70 (pc' := 71) rfl (fun h7 e8 o9 => ?_)
                      have hpf : h7 (x + 39) = some (cQ D 4 (va_up pf i (some z))) := e8
                      have hkp : ∀ i, i < np → kd i < 5 ∧ KpAt h7 (qa i) (kci (kd i)) (co i) (lo i) (pa i) := fun i hi => ⟨(hkp i hi).1, (o9 _ (by have := hqx i hi; omega)).trans (hkp i hi).2⟩
                      have hGa : GaAt h7 x (nI (gN σ 1)) := (o9 _ (by omega)).trans hGa
                      have hSt : StAt D h7 (x + 1) (tnS σ) (nI (gN σ 3)) (nI (gN σ 4)) := ⟨(o9 _ (by omega)).trans hSt.1, (o9 _ (by omega)).trans hSt.2⟩
                      have hO : ∀ q, (q < x + 134 ∧ ¬ q = x + 39) → h7 q = h q := fun q hq => (o9 q (by omega)).trans (hO q hq)
                      have hNew : KpAt h7 (z) 2 (c) (t) (0) := (o9 _ (by omega)).trans hNew
                      subst hnpE hkdE hcoE hloE hpaE
                      subst hin0
                      have hPe2 := ClPe.add (σ := σ) (kd := 1) (h := h) (h1 := h) (by decide) hz (by omega) hpf hpf1 hpf0 hkp hNew hqx hqz hqj
                      have ekd : (1 : Int32).toNatClampNeg = 1 := by decide
                      refine g_iload C 0 dX11_person_71 rfl rfl ?_
                      exact ret _ _ _ _ _ _ _ (Nat.le_of_ble_eq_true rfl) (Nat.le_of_ble_eq_true rfl) dX11_person_73 rfl (⟨⟨by unfold oPerson; rw [cIf_t hAll, if_pos hp30, if_pos (by omega)], by unfold oPerson; rw [cIf_t hAll, if_pos hp30, if_pos (by omega), ekd]; exact Cls_mk (InS_mk (hI0) (hI3) (hI03) (hI4) (hI6) (by show gN σ 8 + 1 ≤ 4; omega) (hI13) (hI16) (hIt) (fun i hi => by show va_up (gA σ 9) (gN σ 8) _ i < 5; by_cases e : i = gN σ 8; simp [va_up, e]; simp only [va_up, if_neg e]; exact hIk i (by have : i < gN σ 8 + 1 := hi; omega)) (hI1) (fun g => by have := hIim g; refine ⟨this.1, this.2.1, ?_, this.2.2.2⟩; show gN σ 29 ≤ gN σ 8 + 1; omega) (hI25) (hI26) (fun g => by have : gN σ 0 = 0 := g; omega)) (ClGa.fr hC.2.1 (fun q g1 g2 => hO q (by omega))) (ClSt.fr hC.2.2.1 (fun q g1 g2 => hO q (by omega))) (ClPg.fr hC.2.2.2.1 (fun q g1 g2 => hO q (by omega))) (ClOl.fr hC.2.2.2.2.1 (fun q g1 g2 => hO q (by omega))) (hPe2) (ClBk.fr hC.2.2.2.2.2.2.1 (fun q g1 g2 => hO q (by omega))) (ClTr.fr hC.2.2.2.2.2.2.2.1 (fun q g1 g2 => hO q (by omega))) (ClIm.fr hC.2.2.2.2.2.2.2.2 (fun q g1 g2 => hO q (by omega)))⟩, fun q g1 g2 => hO q (by omega), by omega, by omega⟩)
                    · skip
                      refine g_callSn C (As := [.int (2), .int (c), .int (t)]) (kn2_X11_newcomer l D b z c t) hw_11_140 (by decide) rfl rfl (Nat.le_of_ble_eq_true rfl) ⟨Nat.le_of_ble_eq_true rfl, Nat.le_of_ble_eq_true rfl⟩ dX11_person_67 (pc' := 70) rfl ?_
                      rintro rr hh2 ⟨⟨rfl, hNew⟩, fr⟩
                      have hGa : GaAt hh2 x (nI (gN σ 1)) := (fr _ (by omega)).trans hGa
                      have hSt : StAt D hh2 (x + 1) (tnS σ) (nI (gN σ 3)) (nI (gN σ 4)) := ⟨(fr _ (by omega)).trans hSt.1, (fr _ (by omega)).trans hSt.2⟩
                      have hpf : hh2 (x + 39) = some (cQ D 4 pf) := (fr _ (by omega)).trans hpf
                      have hqz : ∀ i, i < np → qa i < z := fun i hi => hlt _ _ (hkp i hi).2
                      have hkp : ∀ i, i < np → kd i < 5 ∧ KpAt hh2 (qa i) (kci (kd i)) (co i) (lo i) (pa i) := fun i hi => ⟨(hkp i hi).1, (fr _ (by have := hqz i hi; omega)).trans (hkp i hi).2⟩
                      have hO : ∀ q, (q < x + 134 ∧ ¬ q = x + 39) → hh2 q = h q := fun q hq => (fr q (by omega)).trans (hO q hq)
                      show qG X 1 3 (z + 1) hh2 70 [(4, .int (nI (i))), (3, .int (t)), (2, .int (c)), (1, .int (2)), (0, .ref (x))] [.ref (z), .int (nI (i)), .ref (x + 39)]
                      refine g_aastO C (q := (RX6, TX6, 3)) (hpf) (hNew) rfl (by decide +kernel) (j := i) rfl (by omega) (by decide) dX11_person_70 (pc' := 71) rfl (fun h10 e11 o12 => ?_)
                      have hpf : h10 (x + 39) = some (cQ D 4 (va_up pf i (some z))) := e11
                      have hkp : ∀ i, i < np → kd i < 5 ∧ KpAt h10 (qa i) (kci (kd i)) (co i) (lo i) (pa i) := fun i hi => ⟨(hkp i hi).1, (o12 _ (by have := hqx i hi; omega)).trans (hkp i hi).2⟩
                      have hGa : GaAt h10 x (nI (gN σ 1)) := (o12 _ (by omega)).trans hGa
                      have hSt : StAt D h10 (x + 1) (tnS σ) (nI (gN σ 3)) (nI (gN σ 4)) := ⟨(o12 _ (by omega)).trans hSt.1, (o12 _ (by omega)).trans hSt.2⟩
                      have hO : ∀ q, (q < x + 134 ∧ ¬ q = x + 39) → h10 q = h q := fun q hq => (o12 q (by omega)).trans (hO q hq)
                      have hNew : KpAt h10 (z) 6 (c) (t) (0) := (o12 _ (by omega)).trans hNew
                      subst hnpE hkdE hcoE hloE hpaE
                      subst hin0
                      have hPe2 := ClPe.add (σ := σ) (kd := 2) (h := h) (h1 := h) (by decide) hz (by omega) hpf hpf1 hpf0 hkp hNew hqx hqz hqj
                      have ekd : (2 : Int32).toNatClampNeg = 2 := by decide
                      refine g_iload C 0 dX11_person_71 rfl rfl ?_
                      exact ret _ _ _ _ _ _ _ (Nat.le_of_ble_eq_true rfl) (Nat.le_of_ble_eq_true rfl) dX11_person_73 rfl (⟨⟨by unfold oPerson; rw [cIf_t hAll, if_pos hp30, if_pos (by omega)], by unfold oPerson; rw [cIf_t hAll, if_pos hp30, if_pos (by omega), ekd]; exact Cls_mk (InS_mk (hI0) (hI3) (hI03) (hI4) (hI6) (by show gN σ 8 + 1 ≤ 4; omega) (hI13) (hI16) (hIt) (fun i hi => by show va_up (gA σ 9) (gN σ 8) _ i < 5; by_cases e : i = gN σ 8; simp [va_up, e]; simp only [va_up, if_neg e]; exact hIk i (by have : i < gN σ 8 + 1 := hi; omega)) (hI1) (fun g => by have := hIim g; refine ⟨this.1, this.2.1, ?_, this.2.2.2⟩; show gN σ 29 ≤ gN σ 8 + 1; omega) (hI25) (hI26) (fun g => by have : gN σ 0 = 0 := g; omega)) (ClGa.fr hC.2.1 (fun q g1 g2 => hO q (by omega))) (ClSt.fr hC.2.2.1 (fun q g1 g2 => hO q (by omega))) (ClPg.fr hC.2.2.2.1 (fun q g1 g2 => hO q (by omega))) (ClOl.fr hC.2.2.2.2.1 (fun q g1 g2 => hO q (by omega))) (hPe2) (ClBk.fr hC.2.2.2.2.2.2.1 (fun q g1 g2 => hO q (by omega))) (ClTr.fr hC.2.2.2.2.2.2.2.1 (fun q g1 g2 => hO q (by omega))) (ClIm.fr hC.2.2.2.2.2.2.2.2 (fun q g1 g2 => hO q (by omega)))⟩, fun q g1 g2 => hO q (by omega), by omega, by omega⟩)
                    · skip
                      refine g_callSn C (As := [.int (3), .int (c), .int (t)]) (kn3_X11_newcomer l D b z c t) hw_11_140 (by decide) rfl rfl (Nat.le_of_ble_eq_true rfl) ⟨Nat.le_of_ble_eq_true rfl, Nat.le_of_ble_eq_true rfl⟩ dX11_person_67 (pc' := 70) rfl ?_
                      rintro rr hh3 ⟨⟨rfl, hNew⟩, fr⟩
                      have hGa : GaAt hh3 x (nI (gN σ 1)) := (fr _ (by omega)).trans hGa
                      have hSt : StAt D hh3 (x + 1) (tnS σ) (nI (gN σ 3)) (nI (gN σ 4)) := ⟨(fr _ (by omega)).trans hSt.1, (fr _ (by omega)).trans hSt.2⟩
                      have hpf : hh3 (x + 39) = some (cQ D 4 pf) := (fr _ (by omega)).trans hpf
                      have hqz : ∀ i, i < np → qa i < z := fun i hi => hlt _ _ (hkp i hi).2
                      have hkp : ∀ i, i < np → kd i < 5 ∧ KpAt hh3 (qa i) (kci (kd i)) (co i) (lo i) (pa i) := fun i hi => ⟨(hkp i hi).1, (fr _ (by have := hqz i hi; omega)).trans (hkp i hi).2⟩
                      have hO : ∀ q, (q < x + 134 ∧ ¬ q = x + 39) → hh3 q = h q := fun q hq => (fr q (by omega)).trans (hO q hq)
                      show qG X 1 3 (z + 1) hh3 70 [(4, .int (nI (i))), (3, .int (t)), (2, .int (c)), (1, .int (3)), (0, .ref (x))] [.ref (z), .int (nI (i)), .ref (x + 39)]
                      refine g_aastO C (q := (RX1, TX1, 3)) (hpf) (hNew) rfl (by decide +kernel) (j := i) rfl (by omega) (by decide) dX11_person_70 (pc' := 71) rfl (fun h13 e14 o15 => ?_)
                      have hpf : h13 (x + 39) = some (cQ D 4 (va_up pf i (some z))) := e14
                      have hkp : ∀ i, i < np → kd i < 5 ∧ KpAt h13 (qa i) (kci (kd i)) (co i) (lo i) (pa i) := fun i hi => ⟨(hkp i hi).1, (o15 _ (by have := hqx i hi; omega)).trans (hkp i hi).2⟩
                      have hGa : GaAt h13 x (nI (gN σ 1)) := (o15 _ (by omega)).trans hGa
                      have hSt : StAt D h13 (x + 1) (tnS σ) (nI (gN σ 3)) (nI (gN σ 4)) := ⟨(o15 _ (by omega)).trans hSt.1, (o15 _ (by omega)).trans hSt.2⟩
                      have hO : ∀ q, (q < x + 134 ∧ ¬ q = x + 39) → h13 q = h q := fun q hq => (o15 q (by omega)).trans (hO q hq)
                      have hNew : KpAt h13 (z) 1 (c) (t) (0) := (o15 _ (by omega)).trans hNew
                      subst hnpE hkdE hcoE hloE hpaE
                      subst hin0
                      have hPe2 := ClPe.add (σ := σ) (kd := 3) (h := h) (h1 := h) (by decide) hz (by omega) hpf hpf1 hpf0 hkp hNew hqx hqz hqj
                      have ekd : (3 : Int32).toNatClampNeg = 3 := by decide
                      refine g_iload C 0 dX11_person_71 rfl rfl ?_
                      exact ret _ _ _ _ _ _ _ (Nat.le_of_ble_eq_true rfl) (Nat.le_of_ble_eq_true rfl) dX11_person_73 rfl (⟨⟨by unfold oPerson; rw [cIf_t hAll, if_pos hp30, if_pos (by omega)], by unfold oPerson; rw [cIf_t hAll, if_pos hp30, if_pos (by omega), ekd]; exact Cls_mk (InS_mk (hI0) (hI3) (hI03) (hI4) (hI6) (by show gN σ 8 + 1 ≤ 4; omega) (hI13) (hI16) (hIt) (fun i hi => by show va_up (gA σ 9) (gN σ 8) _ i < 5; by_cases e : i = gN σ 8; simp [va_up, e]; simp only [va_up, if_neg e]; exact hIk i (by have : i < gN σ 8 + 1 := hi; omega)) (hI1) (fun g => by have := hIim g; refine ⟨this.1, this.2.1, ?_, this.2.2.2⟩; show gN σ 29 ≤ gN σ 8 + 1; omega) (hI25) (hI26) (fun g => by have : gN σ 0 = 0 := g; omega)) (ClGa.fr hC.2.1 (fun q g1 g2 => hO q (by omega))) (ClSt.fr hC.2.2.1 (fun q g1 g2 => hO q (by omega))) (ClPg.fr hC.2.2.2.1 (fun q g1 g2 => hO q (by omega))) (ClOl.fr hC.2.2.2.2.1 (fun q g1 g2 => hO q (by omega))) (hPe2) (ClBk.fr hC.2.2.2.2.2.2.1 (fun q g1 g2 => hO q (by omega))) (ClTr.fr hC.2.2.2.2.2.2.2.1 (fun q g1 g2 => hO q (by omega))) (ClIm.fr hC.2.2.2.2.2.2.2.2 (fun q g1 g2 => hO q (by omega)))⟩, fun q g1 g2 => hO q (by omega), by omega, by omega⟩)
                    · skip
                      refine g_callSn C (As := [.int (4), .int (c), .int (t)]) (kn4_X11_newcomer l D b z c t) hw_11_140 (by decide) rfl rfl (Nat.le_of_ble_eq_true rfl) ⟨Nat.le_of_ble_eq_true rfl, Nat.le_of_ble_eq_true rfl⟩ dX11_person_67 (pc' := 70) rfl ?_
                      rintro rr hh4 ⟨⟨rfl, hNew⟩, fr⟩
                      have hGa : GaAt hh4 x (nI (gN σ 1)) := (fr _ (by omega)).trans hGa
                      have hSt : StAt D hh4 (x + 1) (tnS σ) (nI (gN σ 3)) (nI (gN σ 4)) := ⟨(fr _ (by omega)).trans hSt.1, (fr _ (by omega)).trans hSt.2⟩
                      have hpf : hh4 (x + 39) = some (cQ D 4 pf) := (fr _ (by omega)).trans hpf
                      have hqz : ∀ i, i < np → qa i < z := fun i hi => hlt _ _ (hkp i hi).2
                      have hkp : ∀ i, i < np → kd i < 5 ∧ KpAt hh4 (qa i) (kci (kd i)) (co i) (lo i) (pa i) := fun i hi => ⟨(hkp i hi).1, (fr _ (by have := hqz i hi; omega)).trans (hkp i hi).2⟩
                      have hO : ∀ q, (q < x + 134 ∧ ¬ q = x + 39) → hh4 q = h q := fun q hq => (fr q (by omega)).trans (hO q hq)
                      show qG X 1 3 (z + 1) hh4 70 [(4, .int (nI (i))), (3, .int (t)), (2, .int (c)), (1, .int (4)), (0, .ref (x))] [.ref (z), .int (nI (i)), .ref (x + 39)]
                      refine g_aastO C (q := (RX5, TX5, 3)) (hpf) (hNew) rfl (by decide +kernel) (j := i) rfl (by omega) (by decide) dX11_person_70 (pc' := 71) rfl (fun h16 e17 o18 => ?_)
                      have hpf : h16 (x + 39) = some (cQ D 4 (va_up pf i (some z))) := e17
                      have hkp : ∀ i, i < np → kd i < 5 ∧ KpAt h16 (qa i) (kci (kd i)) (co i) (lo i) (pa i) := fun i hi => ⟨(hkp i hi).1, (o18 _ (by have := hqx i hi; omega)).trans (hkp i hi).2⟩
                      have hGa : GaAt h16 x (nI (gN σ 1)) := (o18 _ (by omega)).trans hGa
                      have hSt : StAt D h16 (x + 1) (tnS σ) (nI (gN σ 3)) (nI (gN σ 4)) := ⟨(o18 _ (by omega)).trans hSt.1, (o18 _ (by omega)).trans hSt.2⟩
                      have hO : ∀ q, (q < x + 134 ∧ ¬ q = x + 39) → h16 q = h q := fun q hq => (o18 q (by omega)).trans (hO q hq)
                      have hNew : KpAt h16 (z) 5 (c) (t) (0) := (o18 _ (by omega)).trans hNew
                      subst hnpE hkdE hcoE hloE hpaE
                      subst hin0
                      have hPe2 := ClPe.add (σ := σ) (kd := 4) (h := h) (h1 := h) (by decide) hz (by omega) hpf hpf1 hpf0 hkp hNew hqx hqz hqj
                      have ekd : (4 : Int32).toNatClampNeg = 4 := by decide
                      refine g_iload C 0 dX11_person_71 rfl rfl ?_
                      exact ret _ _ _ _ _ _ _ (Nat.le_of_ble_eq_true rfl) (Nat.le_of_ble_eq_true rfl) dX11_person_73 rfl (⟨⟨by unfold oPerson; rw [cIf_t hAll, if_pos hp30, if_pos (by omega)], by unfold oPerson; rw [cIf_t hAll, if_pos hp30, if_pos (by omega), ekd]; exact Cls_mk (InS_mk (hI0) (hI3) (hI03) (hI4) (hI6) (by show gN σ 8 + 1 ≤ 4; omega) (hI13) (hI16) (hIt) (fun i hi => by show va_up (gA σ 9) (gN σ 8) _ i < 5; by_cases e : i = gN σ 8; simp [va_up, e]; simp only [va_up, if_neg e]; exact hIk i (by have : i < gN σ 8 + 1 := hi; omega)) (hI1) (fun g => by have := hIim g; refine ⟨this.1, this.2.1, ?_, this.2.2.2⟩; show gN σ 29 ≤ gN σ 8 + 1; omega) (hI25) (hI26) (fun g => by have : gN σ 0 = 0 := g; omega)) (ClGa.fr hC.2.1 (fun q g1 g2 => hO q (by omega))) (ClSt.fr hC.2.2.1 (fun q g1 g2 => hO q (by omega))) (ClPg.fr hC.2.2.2.1 (fun q g1 g2 => hO q (by omega))) (ClOl.fr hC.2.2.2.2.1 (fun q g1 g2 => hO q (by omega))) (hPe2) (ClBk.fr hC.2.2.2.2.2.2.1 (fun q g1 g2 => hO q (by omega))) (ClTr.fr hC.2.2.2.2.2.2.2.1 (fun q g1 g2 => hO q (by omega))) (ClIm.fr hC.2.2.2.2.2.2.2.2 (fun q g1 g2 => hO q (by omega)))⟩, fun q g1 g2 => hO q (by omega), by omega, by omega⟩)
            refine q_lsub [0, 4, 3, 2, 1] (L' := [(4, .int (0)), (3, .int (t)), (2, .int (c)), (1, .int (k)), (0, .ref (x))]) rfl ?_
            exact loop42 _ (0) (Nat.lt_succ_self _) (Nat.zero_le _)
          · subst h9; subst er
            refine g_if_ne C dX11_person_33 (tgt := 39) (by decide) (pc' := 36) rfl (fun c33 => absurd (by decide) c33) (fun _ => ?_)
            refine g_bipush C (v := -103) dX11_person_36 (by decide) rfl ?_
            exact ret _ _ _ _ _ _ _ (Nat.le_of_ble_eq_true rfl) (Nat.le_of_ble_eq_true rfl) dX11_person_38 rfl (⟨⟨by unfold oPerson; rw [cIf_t hAll, if_neg hp30], by unfold oPerson; rw [cIf_t hAll, if_neg hp30]; exact hC⟩, fun _ _ _ => rfl, by omega, by omega⟩)
        · subst h9; subst er
          refine g_if_ne C dX11_person_20 (tgt := 26) (by decide) (pc' := 23) rfl (fun c20 => absurd (by decide) c20) (fun _ => ?_)
          refine g_bipush C (v := -102) dX11_person_23 (by decide) rfl ?_
          exact ret _ _ _ _ _ _ _ (Nat.le_of_ble_eq_true rfl) (Nat.le_of_ble_eq_true rfl) dX11_person_25 rfl (⟨⟨by unfold oPerson; rw [cIf_f (fun g => hp17 g.2.2)], by unfold oPerson; rw [cIf_f (fun g => hp17 g.2.2)]; exact hC⟩, fun _ _ _ => rfl, by omega, by omega⟩)
      · subst h9; subst er
        refine g_if_eq C dX11_person_13 (tgt := 23) (by decide) (pc' := 16) rfl (fun _ => ?_) (fun c13 => absurd (by decide) c13)
        refine g_bipush C (v := -102) dX11_person_23 (by decide) rfl ?_
        exact ret _ _ _ _ _ _ _ (Nat.le_of_ble_eq_true rfl) (Nat.le_of_ble_eq_true rfl) dX11_person_25 rfl (⟨⟨by unfold oPerson; rw [cIf_f (fun g => hp10 g.2.1)], by unfold oPerson; rw [cIf_f (fun g => hp10 g.2.1)]; exact hC⟩, fun _ _ _ => rfl, by omega, by omega⟩)

/-! rows that make objects -/
section RNEW
variable {X : qX} {D : va_G} {b : Nat} {l : Launch} {R : Room} {cc : ByteArray} {own : String} {nL : Nat} {k n z : Nat} {h : qH} {pc pc' : Nat} {L L' : List (Nat × Value)} {st : List Value}
theorem g_new (C : qC X D b l R cc own nL) {ci index N : Nat} {Cn : String} {T : u_T} {fs : List Value} (ty : Nat → FieldType) (hty : ∀ k, k < N → parseFieldDescriptor (T k).2.2.1 = some (ty k)) (hin : ∀ w ∈ u_ws Cn T N, w ∈ AW) (hw : Cond.classLink own index Cn ∈ AW ∧ Cond.instantiable Cn N ∈ AW ∧ Cond.initialized Cn ∈ AW) (hcl : vwCl[ci]? = some (Cn, T, N)) (hfs : ∀ j, j < N → defaultValue (ty j) = vp_V fs j) (hroom : k + 1 ≤ R.cells ∧ n + N ≤ R.slots) (hdg : decode cc pc = .ok (.new index, 3)) (hp : pc + 3 = pc') (kk : ∀ h1 : qH, h1 z = some (.inr (ci, fs)) → (∀ a, a ≠ z → h1 a = h a) → qG X (k + 1) (n + N) (z + 1) h1 pc' L (.ref z :: st)) : qG X k n z h pc L st := by
  obtain ⟨D0, b0, p, l0, e, R0, s, m, args, below, meth, c, nL0, Q⟩ := X
  obtain ⟨rfl, rfl, rfl, rfl, rfl, hx, hb, hml, hown, hts, hK, hbs⟩ := C
  subst hp
  intro H locs ls hP hS hl
  have hKn := hK.1.1 ci _ hcl
  refine W.newcK hx hb hown (hts _ hw.1) (hts _ hw.2.1) (hts _ hw.2.2) rfl hdg hroom.1 hroom.2 hKn.2.1 hP.1 fun H1 kC hkC e1 z1 o1 => ?_
  exact kk _ q_at (fun a ha => q_ne ha) H1 locs ls (hP.push ⟨_, hcl, (u_born ty hts hin hKn hkC e1 hty).to hfs⟩ z1 o1) ⟨Nat.le_trans hS.1 (by have := hP.1; omega), fun x h1 h2 => (o1 x (by rw [← hP.1]; exact Nat.lt_of_lt_of_le h1 hS.1)).trans (hS.2.1 x h1 h2), hS.2.2⟩ hl
theorem g_newI (C : qC X D b l R cc own nL) {N : Nat} {i : Int32} (hi : i = nI N) (hN : N < 1000) (hw : Cond.arrayClass .int ∈ AW) (hroom : k + 1 ≤ R.cells ∧ n + N ≤ R.slots) (hdg : decode cc pc = .ok (.newarray .int, 2)) (hp : pc + 2 = pc') (kk : ∀ h1 : qH, h1 z = some (cI D N (fun _ => 0)) → (∀ a, a ≠ z → h1 a = h a) → qG X (k + 1) (n + N) (z + 1) h1 pc' L (.ref z :: st)) : qG X k n z h pc L (.int i :: st) := by
  subst hi
  obtain ⟨D0, b0, p, l0, e, R0, s, m, args, below, meth, c, nL0, Q⟩ := X
  obtain ⟨rfl, rfl, rfl, rfl, rfl, hx, hb, hml, hown, hts, hK, hbs⟩ := C
  subst hp
  intro H locs ls hP hS hl
  have h0 : ¬ nI N < 0 := fun g => by
    have g1 := Int32.lt_iff_toInt_lt.mp g
    rw [nI_toInt (by omega)] at g1
    have e0 : (0 : Int32).toInt = 0 := by decide
    omega
  refine va_newaK (g := F0 m pc ls (.int (nI N) :: st)) hx hb (atype := .int) (hts _ hw) rfl hdg rfl h0 (nI_clamp (by omega)) (by show N * componentBytes .int ≤ _; have : componentBytes .int ≤ 4 := (by decide); have := Nat.mul_le_mul_left N this; omega) hroom.1 hroom.2 hP.1 fun H1 cA e1 z1 o1 hAr hNm => ?_
  have hA : s.vm.findClass ("[" ++ (FieldType.int).toString) = some (D0.1 20) := (hK.1.2 0 _ rfl).2
  have hc : cA = D0.1 20 := Option.some.inj (hNm.symm.trans hA)
  subst hc
  refine kk _ q_at (fun a ha => q_ne ha) H1 locs ls (hP.push ?_ z1 o1) ⟨Nat.le_trans hS.1 (by have := hP.1; omega), fun x h1 h2 => (o1 x (by rw [← hP.1]; exact Nat.lt_of_lt_of_le h1 hS.1)).trans (hS.2.1 x h1 h2), hS.2.2⟩ hl
  show H1[z]? = some (vp_cell _ _)
  rw [e1, vp_cell_i]
  rfl
theorem g_newB (C : qC X D b l R cc own nL) {N : Nat} {i : Int32} (hi : i = nI N) (hN : N < 1000) (hw : Cond.arrayClass .byte ∈ AW) (hroom : k + 1 ≤ R.cells ∧ n + N ≤ R.slots) (hdg : decode cc pc = .ok (.newarray .byte, 2)) (hp : pc + 2 = pc') (kk : ∀ h1 : qH, h1 z = some (cB D N (fun _ => 0)) → (∀ a, a ≠ z → h1 a = h a) → qG X (k + 1) (n + N) (z + 1) h1 pc' L (.ref z :: st)) : qG X k n z h pc L (.int i :: st) := by
  subst hi
  obtain ⟨D0, b0, p, l0, e, R0, s, m, args, below, meth, c, nL0, Q⟩ := X
  obtain ⟨rfl, rfl, rfl, rfl, rfl, hx, hb, hml, hown, hts, hK, hbs⟩ := C
  subst hp
  intro H locs ls hP hS hl
  have h0 : ¬ nI N < 0 := fun g => by
    have g1 := Int32.lt_iff_toInt_lt.mp g
    rw [nI_toInt (by omega)] at g1
    have e0 : (0 : Int32).toInt = 0 := by decide
    omega
  refine va_newaK (g := F0 m pc ls (.int (nI N) :: st)) hx hb (atype := .byte) (hts _ hw) rfl hdg rfl h0 (nI_clamp (by omega)) (by show N * componentBytes .byte ≤ _; have : componentBytes .byte ≤ 4 := (by decide); have := Nat.mul_le_mul_left N this; omega) hroom.1 hroom.2 hP.1 fun H1 cA e1 z1 o1 hAr hNm => ?_
  have hA : s.vm.findClass ("[" ++ (FieldType.byte).toString) = some (D0.1 22) := (hK.1.2 2 _ rfl).2
  have hc : cA = D0.1 22 := Option.some.inj (hNm.symm.trans hA)
  subst hc
  refine kk _ q_at (fun a ha => q_ne ha) H1 locs ls (hP.push ?_ z1 o1) ⟨Nat.le_trans hS.1 (by have := hP.1; omega), fun x h1 h2 => (o1 x (by rw [← hP.1]; exact Nat.lt_of_lt_of_le h1 hS.1)).trans (hS.2.1 x h1 h2), hS.2.2⟩ hl
  show H1[z]? = some (vp_cell _ _)
  rw [e1, vp_cell_i]
  rfl
theorem g_anewQ (C : qC X D b l R cc own nL) {N index : Nat} {i : Int32} (hi : i = nI N) (hN : N < 1000) (hw : Cond.classLink own index "EarlyGauge$Keeper" ∈ AW) (hroom : k + 1 ≤ R.cells ∧ n + N ≤ R.slots) (hdg : decode cc pc = .ok (.anewarray index, 3)) (hp : pc + 3 = pc') (kk : ∀ h1 : qH, h1 z = some (cQ D N (fun _ => none)) → (∀ a, a ≠ z → h1 a = h a) → qG X (k + 1) (n + N) (z + 1) h1 pc' L (.ref z :: st)) : qG X k n z h pc L (.int i :: st) := by
  subst hi
  obtain ⟨D0, b0, p, l0, e, R0, s, m, args, below, meth, c, nL0, Q⟩ := X
  obtain ⟨rfl, rfl, rfl, rfl, rfl, hx, hb, hml, hown, hts, hK, hbs⟩ := C
  subst hp
  intro H locs ls hP hS hl
  have h0 : ¬ nI N < 0 := fun g => by
    have g1 := Int32.lt_iff_toInt_lt.mp g
    rw [nI_toInt (by omega)] at g1
    have e0 : (0 : Int32).toInt = 0 := by decide
    omega
  have hcl : (nI N).toNatClampNeg = N := nI_clamp (by omega)
  refine W.anew hx hb hown (hts _ hw) (va_AO.use hK.2.2.2.2.2.1) (g := F0 m pc ls (.int (nI N) :: st)) rfl hdg rfl h0 (by rw [hcl]; omega) hroom.1 (by rw [hcl]; exact hroom.2) fun cA kA comp f1 f2 f3 f4 => ?_
  rw [hcl]
  generalize hH1 : H.push ({ cls := cA, slots := Array.replicate N .null, vm := .none } : Cell) = H1
  have z1 : H1.size = z + 1 := by rw [← hH1, Array.size_push, hP.1]
  have e1 : H1[z]? = some (arrV cA N (fun _ => .null)) := by rw [← hH1, ← hP.1, Array.getElem?_push_size, ← arrV_new]
  have o1 : ∀ q : Nat, q < z → H1[q]? = H[q]? := fun q hq => by rw [← hH1, Array.getElem?_push, if_neg (Nat.ne_of_lt (by rw [hP.1]; exact hq))]
  obtain ⟨kA2, comp2, g1, g2, g3, g4⟩ := (hK.1.2 3 _ rfl).2
  have hc : cA = D0.1 23 := Option.some.inj (f1.symm.trans g4)
  subst hc
  have hz : H.size = z := hP.1
  rw [hz]
  refine kk _ q_at (fun a ha => q_ne ha) H1 locs ls (hP.push ?_ z1 o1) ⟨Nat.le_trans hS.1 (by have := hP.1; omega), fun x h1 h2 => (o1 x (by rw [← hP.1]; exact Nat.lt_of_lt_of_le h1 hS.1)).trans (hS.2.1 x h1 h2), hS.2.2⟩ hl
  show H1[z]? = some (vp_cell _ _)
  rw [e1, vp_cell_q]
  rfl
theorem g_mnaI (C : qC X D b l R cc own nL) {index : Nat} (hw : Cond.classLink own index ("[" ++ (FieldType.array .int).toString) ∈ AW ∧ Cond.arrayClass .int ∈ AW) (hroom : k + (1 + 7) ≤ R.cells ∧ n + (7 + 7 * 3) ≤ R.slots) (hdg : decode cc pc = .ok (.multianewarray index 2, 4)) (hp : pc + 4 = pc') (kk : ∀ h1 : qH, h1 z = some (cII D 7 (gridF z)) → (∀ i, i < 7 → h1 (z + 1 + i) = some (cI D 3 (fun _ => 0))) → (∀ a, (a < z ∨ z + 8 ≤ a) → h1 a = h a) → qG X (k + 8) (n + 28) (z + 8) h1 pc' L (.ref z :: st)) : qG X k n z h pc L (.int 3 :: .int 7 :: st) := by
  obtain ⟨D0, b0, p, l0, e, R0, s, m, args, below, meth, c, nL0, Q⟩ := X
  obtain ⟨rfl, rfl, rfl, rfl, rfl, hx, hb, hml, hown, hts, hK, hbs⟩ := C
  subst hp
  intro H locs ls hP hS hl
  intro T hT Xs
  obtain ⟨vm₁, cA, comp, -, fA, fC, hO, -, X', step⟩ := Xs.multianewarray2F hx hown (hts _ hw.1) (va_AOA.use hK.2.2.2.2.2.2.1) (hts _ hw.2) (g := F0 m pc ls (.int 3 :: .int 7 :: st)) rfl (by rw [hb]; exact hdg) rfl (by decide) (by decide) (by decide) (by decide) (by decide) (by decide) (by decide) hroom.1 hroom.2
  have hA : s.vm.findClass ("[" ++ (FieldType.array .int).toString) = some (D0.1 24) := (hK.1.2 4 _ rfl).2
  have hI : s.vm.findClass ("[" ++ (FieldType.int).toString) = some (D0.1 20) := (hK.1.2 0 _ rfl).2
  have hcA : cA = D0.1 24 := Option.some.inj (fA.symm.trans hA)
  have hcI : comp = D0.1 20 := Option.some.inj (fC.symm.trans hI)
  subst hcA hcI
  generalize hF : Jvm.Free.Multi.fill (T.setVm vm₁) (D0.1 24) (D0.1 20) (7 : Int32).toNatClampNeg (3 : Int32).toNatClampNeg (defaultValue .int) (7 : Int32).toNatClampNeg = F at X' step
  have hTh : (T.setVm vm₁).heap = H := hT
  obtain ⟨f1, f2, -, -⟩ := Jvm.Free.Multi.fill_facts (T.setVm vm₁) (D0.1 24) (D0.1 20) (7 : Int32).toNatClampNeg (3 : Int32).toNatClampNeg (defaultValue .int) (7 : Int32).toNatClampNeg
  rw [hF, hTh] at f1 f2
  have hold : ∀ x : Nat, x < H.size → F.heap[x]? = H[x]? := fun x hx => by
    have := Jvm.Free.Multi.fill_old (T.setVm vm₁) (D0.1 24) (D0.1 20) (7 : Int32).toNatClampNeg (3 : Int32).toNatClampNeg (defaultValue .int) (a := x) (by rw [hTh]; exact hx) (7 : Int32).toNatClampNeg
    rw [hF, hTh] at this
    exact this
  have hrow : ∀ j : Nat, j < 7 → F.heap[H.size + 1 + j]? = some (vp_cell (D0.1 20) (3, .inl (fun _ => 0))) := fun j hj => by
    have := Jvm.Free.Multi.fill_inner (T.setVm vm₁) (D0.1 24) (D0.1 20) (7 : Int32).toNatClampNeg (3 : Int32).toNatClampNeg (defaultValue .int) (7 : Int32).toNatClampNeg j hj
    rw [hF, hTh] at this
    rw [this, vp_cell_i]
    rfl
  have hout : Jvm.Free.Multi.outerC (D0.1 24) (7 : Int32).toNatClampNeg H.size (7 : Int32).toNatClampNeg = vp_cell (D0.1 24) (7, .inr (.inr (.inr (.inr (fun i => if i < 7 then some (H.size + 1 + i) else none))))) := by
    rw [vp_cell_q]
    exact vr_outer (D0.1 24) 7 H.size 7
  rw [hout] at f2
  have hz : H.size = z := hP.1
  have e : T.heap.size = z := by rw [hT]; exact hz
  rw [hz] at f1 f2 hold hrow
  have f1' : F.heap.size = z + 8 := f1
  let g : qH := fun a => if a = z then some (cII D0 7 (gridF z)) else if z < a ∧ a < z + 8 then some (cI D0 3 (fun _ => 0)) else h a
  have g1 : g z = some (cII D0 7 (gridF z)) := if_pos rfl
  have g2 : ∀ i, i < 7 → g (z + 1 + i) = some (cI D0 3 (fun _ => 0)) := fun i hi => (if_neg (by omega)).trans (if_pos (by omega))
  have g3 : ∀ a, (a < z ∨ z + 8 ≤ a) → g a = h a := fun a ha => (if_neg (by omega)).trans (if_neg (by omega))
  have hPg : qP D0 b0 g (z + 8) F.heap := by
    refine ⟨f1', by have := hP.2.1; omega, fun a e' ha => ?_⟩
    by_cases c1 : a = z
    · subst c1
      rw [g1] at ha
      cases ha
      exact ⟨hP.2.1, f2⟩
    · by_cases c2 : z < a ∧ a < z + 8
      · obtain ⟨i, rfl⟩ : ∃ i, a = z + 1 + i := ⟨a - (z + 1), by omega⟩
        rw [g2 i (by omega)] at ha
        cases ha
        exact ⟨by have := hP.2.1; omega, hrow i (by omega)⟩
      · have hh : h a = some e' := ((if_neg c1).trans (if_neg c2)).symm.trans ha
        have hlt := hP.lt hh
        exact ⟨(hP.2.2 a e' hh).1, (hP.2.2 a e' hh).2.kept (hold a hlt)⟩
  obtain ⟨t, a1, b1⟩ := kk g g1 g2 g3 F.heap locs ls hPg ⟨by rw [f1']; have := hS.1; omega, fun x h1 h2 => (hold x (by rw [← hz]; exact Nat.lt_of_lt_of_le h1 hS.1)).trans (hS.2.1 x h1 h2), hS.2.2⟩ hl F rfl X'
  refine ⟨t, step t ?_, b1⟩
  rw [e]
  exact a1
theorem g_mnaJ (C : qC X D b l R cc own nL) {index : Nat} (hw : Cond.classLink own index ("[" ++ (FieldType.array .long).toString) ∈ AW ∧ Cond.arrayClass .long ∈ AW) (hroom : k + (1 + 7) ≤ R.cells ∧ n + (7 + 7 * 3) ≤ R.slots) (hdg : decode cc pc = .ok (.multianewarray index 2, 4)) (hp : pc + 4 = pc') (kk : ∀ h1 : qH, h1 z = some (cJJ D 7 (gridF z)) → (∀ i, i < 7 → h1 (z + 1 + i) = some (cJ D 3 (fun _ => 0))) → (∀ a, (a < z ∨ z + 8 ≤ a) → h1 a = h a) → qG X (k + 8) (n + 28) (z + 8) h1 pc' L (.ref z :: st)) : qG X k n z h pc L (.int 3 :: .int 7 :: st) := by
  obtain ⟨D0, b0, p, l0, e, R0, s, m, args, below, meth, c, nL0, Q⟩ := X
  obtain ⟨rfl, rfl, rfl, rfl, rfl, hx, hb, hml, hown, hts, hK, hbs⟩ := C
  subst hp
  intro H locs ls hP hS hl
  intro T hT Xs
  obtain ⟨vm₁, cA, comp, -, fA, fC, hO, -, X', step⟩ := Xs.multianewarray2F hx hown (hts _ hw.1) (va_AOA.use hK.2.2.2.2.2.2.2) (hts _ hw.2) (g := F0 m pc ls (.int 3 :: .int 7 :: st)) rfl (by rw [hb]; exact hdg) rfl (by decide) (by decide) (by decide) (by decide) (by decide) (by decide) (by decide) hroom.1 hroom.2
  have hA : s.vm.findClass ("[" ++ (FieldType.array .long).toString) = some (D0.1 25) := (hK.1.2 5 _ rfl).2
  have hI : s.vm.findClass ("[" ++ (FieldType.long).toString) = some (D0.1 21) := (hK.1.2 1 _ rfl).2
  have hcA : cA = D0.1 25 := Option.some.inj (fA.symm.trans hA)
  have hcI : comp = D0.1 21 := Option.some.inj (fC.symm.trans hI)
  subst hcA hcI
  generalize hF : Jvm.Free.Multi.fill (T.setVm vm₁) (D0.1 25) (D0.1 21) (7 : Int32).toNatClampNeg (3 : Int32).toNatClampNeg (defaultValue .long) (7 : Int32).toNatClampNeg = F at X' step
  have hTh : (T.setVm vm₁).heap = H := hT
  obtain ⟨f1, f2, -, -⟩ := Jvm.Free.Multi.fill_facts (T.setVm vm₁) (D0.1 25) (D0.1 21) (7 : Int32).toNatClampNeg (3 : Int32).toNatClampNeg (defaultValue .long) (7 : Int32).toNatClampNeg
  rw [hF, hTh] at f1 f2
  have hold : ∀ x : Nat, x < H.size → F.heap[x]? = H[x]? := fun x hx => by
    have := Jvm.Free.Multi.fill_old (T.setVm vm₁) (D0.1 25) (D0.1 21) (7 : Int32).toNatClampNeg (3 : Int32).toNatClampNeg (defaultValue .long) (a := x) (by rw [hTh]; exact hx) (7 : Int32).toNatClampNeg
    rw [hF, hTh] at this
    exact this
  have hrow : ∀ j : Nat, j < 7 → F.heap[H.size + 1 + j]? = some (vp_cell (D0.1 21) (3, .inr (.inl (fun _ => 0)))) := fun j hj => by
    have := Jvm.Free.Multi.fill_inner (T.setVm vm₁) (D0.1 25) (D0.1 21) (7 : Int32).toNatClampNeg (3 : Int32).toNatClampNeg (defaultValue .long) (7 : Int32).toNatClampNeg j hj
    rw [hF, hTh] at this
    rw [this, vp_cell_l]
    rfl
  have hout : Jvm.Free.Multi.outerC (D0.1 25) (7 : Int32).toNatClampNeg H.size (7 : Int32).toNatClampNeg = vp_cell (D0.1 25) (7, .inr (.inr (.inr (.inr (fun i => if i < 7 then some (H.size + 1 + i) else none))))) := by
    rw [vp_cell_q]
    exact vr_outer (D0.1 25) 7 H.size 7
  rw [hout] at f2
  have hz : H.size = z := hP.1
  have e : T.heap.size = z := by rw [hT]; exact hz
  rw [hz] at f1 f2 hold hrow
  have f1' : F.heap.size = z + 8 := f1
  let g : qH := fun a => if a = z then some (cJJ D0 7 (gridF z)) else if z < a ∧ a < z + 8 then some (cJ D0 3 (fun _ => 0)) else h a
  have g1 : g z = some (cJJ D0 7 (gridF z)) := if_pos rfl
  have g2 : ∀ i, i < 7 → g (z + 1 + i) = some (cJ D0 3 (fun _ => 0)) := fun i hi => (if_neg (by omega)).trans (if_pos (by omega))
  have g3 : ∀ a, (a < z ∨ z + 8 ≤ a) → g a = h a := fun a ha => (if_neg (by omega)).trans (if_neg (by omega))
  have hPg : qP D0 b0 g (z + 8) F.heap := by
    refine ⟨f1', by have := hP.2.1; omega, fun a e' ha => ?_⟩
    by_cases c1 : a = z
    · subst c1
      rw [g1] at ha
      cases ha
      exact ⟨hP.2.1, f2⟩
    · by_cases c2 : z < a ∧ a < z + 8
      · obtain ⟨i, rfl⟩ : ∃ i, a = z + 1 + i := ⟨a - (z + 1), by omega⟩
        rw [g2 i (by omega)] at ha
        cases ha
        exact ⟨by have := hP.2.1; omega, hrow i (by omega)⟩
      · have hh : h a = some e' := ((if_neg c1).trans (if_neg c2)).symm.trans ha
        have hlt := hP.lt hh
        exact ⟨(hP.2.2 a e' hh).1, (hP.2.2 a e' hh).2.kept (hold a hlt)⟩
  obtain ⟨t, a1, b1⟩ := kk g g1 g2 g3 F.heap locs ls hPg ⟨by rw [f1']; have := hS.1; omega, fun x h1 h2 => (hold x (by rw [← hz]; exact Nat.lt_of_lt_of_le h1 hS.1)).trans (hS.2.1 x h1 h2), hS.2.2⟩ hl F rfl X'
  refine ⟨t, step t ?_, b1⟩
  rw [e]
  exact a1
end RNEW

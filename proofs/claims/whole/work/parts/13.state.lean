/-! stores of references; rows told by other functions; the state of the system -/
section R13
variable {X : qX} {D : va_G} {b : Nat} {l : Launch} {R : Room} {cc : ByteArray} {own : String} {nL : Nat} {k n z : Nat} {h : qH} {pc pc' : Nat} {L L' : List (Nat × Value)} {st : List Value}
theorem g_aastO (C : qC X D b l R cc own nL) {a N v ci j : Nat} {fs : List Value} {g : Nat → Option Nat} {i : Int32} {q : vw_C} (he : h a = some (cQ D N g)) (hv : h v = some (.inr (ci, fs))) (hcl : vwCl[ci]? = some q) (hca : (q.1, "EarlyGauge$Keeper") ∈ qYC) (hi : i = nI j) (hj : j < N) (hN : N < 2 ^ 31) (hdg : decode cc pc = .ok (.aastore, 1)) (hp : pc + 1 = pc') (kk : ∀ h1 : qH, h1 a = some (cQ D N (va_up g j (some v))) → (∀ q, q ≠ a → h1 q = h q) → qG X k n z h1 pc' L st) : qG X k n z h pc L (.ref v :: .int i :: .ref a :: st) := by
  subst hi
  have hin : vp_in (nI j) N := vp_in_nI hj hN
  have hjj : (nI j).toNatClampNeg = j := nI_clamp (by omega)
  obtain ⟨D0, b0, p, l0, e, R0, s, m, args, below, meth, c, nL0, Q⟩ := X
  obtain ⟨rfl, rfl, rfl, rfl, rfl, hx, hb, hml, hown, hts, hK, hbs⟩ := C
  subst hp
  intro H locs ls hP hS hl
  have hPo := hP.one he
  have hDo := hP.oneD he
  have hlt : (nI j).toNatClampNeg < N := Nat.not_le.mp fun q => hin (Or.inr q)
  have h0 : ¬ (nI j) < 0 := fun q => hin (Or.inl q)
  obtain ⟨r', hr', cellV, g1, g2, g3, -⟩ := (hP.one hv) 0 _ rfl
  have hcls := (hK.1.1 ci q hcl).2
  obtain ⟨kA, comp, k1, k2, k3, -⟩ := (hK.1.2 3 _ rfl).2
  obtain ⟨kE, hkE, -⟩ := Vm.findClass_spec k3
  obtain ⟨c0, t1, f1, f2, f3⟩ := Cond.castable_spec (va_Nw.use (A := args) rfl (hK.2.2.2.1 _ hca))
  cases hcls.1.symm.trans f1
  cases k3.symm.trans f2
  obtain ⟨kC, hkC, -⟩ := hcls.2
  refine W.aast hx hb (hPo 0 _ rfl) (fun q h => by cases h) (fun h => by cases h) k1 k2 rfl hkE ⟨h0, by show _ < (arrV _ _ _).slots.size; rw [arrV_size]; exact hlt⟩ g1 (fun q h => by rw [g3] at h; cases h) (by rw [g2]; exact hkC) (by rw [g2]; exact f3) rfl rfl hdg fun H1 e1 z1 oq => ?_
  refine kk _ q_at (fun q hq => q_ne hq) H1 _ ls (hP.set he ?_ z1 oq) (hS.put z1 oq (hDo.2 0 _ rfl)) hl
  show H1[a]? = some (vp_cell _ _)
  rw [e1, hjj]
  rw [vp_cell_q, vp_cell_q, arrV_store]
  congr 2
  funext q
  by_cases hq : q = j
  · subst hq
    simp [updV, va_up, va_rf]
  · simp [updV, va_up, hq]
theorem g_aastK (C : qC X D b l R cc own nL) {a N v j : Nat} {fs : List Value} {g : Nat → Option Nat} {i : Int32} (he : h a = some (cQ D N g)) (hv : h v = some (.inr (4, fs))) (hi : i = nI j) (hj : j < N) (hN : N < 2 ^ 31) (hdg : decode cc pc = .ok (.aastore, 1)) (hp : pc + 1 = pc') (kk : ∀ h1 : qH, h1 a = some (cQ D N (va_up g j (some v))) → (∀ q, q ≠ a → h1 q = h q) → qG X k n z h1 pc' L st) : qG X k n z h pc L (.ref v :: .int i :: .ref a :: st) := by
  subst hi
  have hin : vp_in (nI j) N := vp_in_nI hj hN
  have hjj : (nI j).toNatClampNeg = j := nI_clamp (by omega)
  obtain ⟨D0, b0, p, l0, e, R0, s, m, args, below, meth, c, nL0, Q⟩ := X
  obtain ⟨rfl, rfl, rfl, rfl, rfl, hx, hb, hml, hown, hts, hK, hbs⟩ := C
  subst hp
  intro H locs ls hP hS hl
  have hPo := hP.one he
  have hDo := hP.oneD he
  have hlt : (nI j).toNatClampNeg < N := Nat.not_le.mp fun q => hin (Or.inr q)
  have h0 : ¬ (nI j) < 0 := fun q => hin (Or.inl q)
  obtain ⟨r', hr', cellV, g1, g2, g3, -⟩ := (hP.one hv) 0 _ rfl
  have hcls := (hK.1.1 4 (RX4, TX4, 3) rfl).2
  obtain ⟨kA, comp, k1, k2, k3, -⟩ := (hK.1.2 3 _ rfl).2
  have hcomp : comp = D0.1 4 := Option.some.inj (k3.symm.trans hcls.1)
  subst hcomp
  obtain ⟨kC, hkC, -⟩ := hcls.2
  refine W.aast hx hb (hPo 0 _ rfl) (fun q h => by cases h) (fun h => by cases h) k1 k2 rfl hkC ⟨h0, by show _ < (arrV _ _ _).slots.size; rw [arrV_size]; exact hlt⟩ g1 (fun q h => by rw [g3] at h; cases h) (by rw [g2]; exact hkC) (by rw [g2]; exact va_assign hcls) rfl rfl hdg fun H1 e1 z1 oq => ?_
  refine kk _ q_at (fun q hq => q_ne hq) H1 _ ls (hP.set he ?_ z1 oq) (hS.put z1 oq (hDo.2 0 _ rfl)) hl
  show H1[a]? = some (vp_cell _ _)
  rw [e1, hjj]
  rw [vp_cell_q, vp_cell_q, arrV_store]
  congr 2
  funext q
  by_cases hq : q = j
  · subst hq
    simp [updV, va_up, va_rf]
  · simp [updV, va_up, hq]
theorem g_aastN (C : qC X D b l R cc own nL) {a N j : Nat} {g : Nat → Option Nat} {i : Int32} (he : h a = some (cQ D N g)) (hi : i = nI j) (hj : j < N) (hN : N < 2 ^ 31) (hdg : decode cc pc = .ok (.aastore, 1)) (hp : pc + 1 = pc') (kk : ∀ h1 : qH, h1 a = some (cQ D N (va_up g j none)) → (∀ q, q ≠ a → h1 q = h q) → qG X k n z h1 pc' L st) : qG X k n z h pc L (.null :: .int i :: .ref a :: st) := by
  subst hi
  have hin : vp_in (nI j) N := vp_in_nI hj hN
  have hjj : (nI j).toNatClampNeg = j := nI_clamp (by omega)
  obtain ⟨D0, b0, p, l0, e, R0, s, m, args, below, meth, c, nL0, Q⟩ := X
  obtain ⟨rfl, rfl, rfl, rfl, rfl, hx, hb, hml, hown, hts, hK, hbs⟩ := C
  subst hp
  intro H locs ls hP hS hl
  have hPo := hP.one he
  have hDo := hP.oneD he
  refine va_WaastN (C := "EarlyGauge$Keeper") hx hb (hPo 0 _ rfl) ((hK.1.2 3 _ rfl).1 N (fun j => va_rf (g j))) (fun h => by cases h) (by show ¬ ((nI j) < 0 ∨ (arrV _ _ _).slots.size ≤ _); rw [arrV_size]; exact hin) rfl rfl hdg fun H1 e1 z1 oq => ?_
  refine kk _ q_at (fun q hq => q_ne hq) H1 _ ls (hP.set he ?_ z1 oq) (hS.put z1 oq (hDo.2 0 _ rfl)) hl
  show H1[a]? = some (vp_cell _ _)
  rw [e1, hjj]
  rw [vp_cell_q, vp_cell_q, arrV_store]
  congr 2
  funext q
  by_cases hq : q = j
  · subst hq
    simp [updV, va_up, va_rf]
  · simp [updV, va_up, hq]
theorem arrV_ext {c : ClassId} {N : Nat} {f g : Nat → Value} (h : ∀ j, j < N → f j = g j) : arrV c N f = arrV c N g := by
  unfold arrV
  congr 1
  apply Array.ext
  · simp
  · intro i h1 h2
    simp only [Array.getElem_ofFn]
    exact h i (by simpa using h1)
theorem g_canon (C : qC X D b l R cc own nL) {a N : Nat} {f g : Nat → Int32} (he : h a = some (cI D N f)) (hfg : ∀ j, j < N → f j = g j) (kk : ∀ h1 : qH, h1 a = some (cI D N g) → (∀ q, q ≠ a → h1 q = h q) → qG X k n z h1 pc L st) : qG X k n z h pc L st := by
  obtain ⟨D0, b0, p, l0, e, R0, s, m, args, below, meth, c, nL0, Q⟩ := X
  obtain ⟨rfl, rfl, rfl, rfl, rfl, hx, hb, hml, hown, hts, hK, hbs⟩ := C
  intro H locs ls hP hS hl
  refine kk _ q_at (fun q hq => q_ne hq) H locs ls (hP.set he ?_ rfl (fun _ _ => rfl)) hS hl
  have h1 : H[a]? = some (vp_cell (D0.1 20) (N, .inl f)) := (hP.2.2 _ _ he).2
  show H[a]? = some (vp_cell (D0.1 20) (N, .inl g))
  rw [h1, vp_cell_i, vp_cell_i, arrV_ext (fun j hj => by rw [hfg j hj])]
end R13
/-! ### the state: numbers (naturals), numbers (ints), rows of naturals, rows of ints; by the reference's own places -/
abbrev sg : Type := (Nat → Nat) × (Nat → Int32) × (Nat → Nat → Nat) × (Nat → Nat → Int32)
def gN (σ : sg) (k : Nat) : Nat := σ.1 k
def gI (σ : sg) (k : Nat) : Int32 := σ.2.1 k
def gA (σ : sg) (k : Nat) : Nat → Nat := σ.2.2.1 k
def gB (σ : sg) (k : Nat) : Nat → Int32 := σ.2.2.2 k
def uN (σ : sg) (k v : Nat) : sg := (va_up σ.1 k v, σ.2)
def uI (σ : sg) (k : Nat) (v : Int32) : sg := (σ.1, va_up σ.2.1 k v, σ.2.2)
def uA (σ : sg) (k : Nat) (v : Nat → Nat) : sg := (σ.1, σ.2.1, va_up σ.2.2.1 k v, σ.2.2.2)
def uB (σ : sg) (k : Nat) (v : Nat → Int32) : sg := (σ.1, σ.2.1, σ.2.2.1, va_up σ.2.2.2 k v)
def tnS (σ : sg) : Nat → Int32 := fun i => nI (gA σ 2 i)
/-- odds from day to day -/
def stS (σ : sg) : Nat → Nat → Nat → Int64 := F_step (tnS σ) (nI (gN σ 4)) (gB σ 7)
def ClGa (h : qH) (x : Nat) (σ : sg) : Prop := GaAt h x (nI (gN σ 1))
def ClSt (D : va_G) (h : qH) (x : Nat) (σ : sg) : Prop := StAt D h (x + 1) (tnS σ) (nI (gN σ 3)) (nI (gN σ 4))
def ClPg (D : va_G) (h : qH) (x : Nat) (σ : sg) : Prop := PgAt D h (x + 3) (gB σ 17) (nI (gN σ 16))
def ClOl (D : va_G) (h : qH) (x : Nat) (σ : sg) : Prop := OlAny D h (x + 5) (x + 1) (gB σ 7) (gI σ 5) (nI (gN σ 6)) ∧ (gN σ 0 = 1 → OlOK D h (x + 5) (x + 1) (tnS σ) (nI (gN σ 4)) (gB σ 7) (gI σ 5) (gN σ 6))
def ClPe (D : va_G) (h : qH) (x : Nat) (σ : sg) : Prop := ∃ qa, PeAt D h (x + 39) (gN σ 8) qa (gA σ 9) (gB σ 10) (gB σ 11) (gB σ 12) ∧ (∀ i, i < gN σ 8 → x + 134 ≤ qa i) ∧ ∀ i j, i < gN σ 8 → j < gN σ 8 → qa i = qa j → i = j
def ClBk (D : va_G) (h : qH) (x : Nat) (σ : sg) : Prop := BkAt D h (x + 40) (gB σ 14) (gB σ 15) (nI (gN σ 13))
def ClTr (D : va_G) (h : qH) (x : Nat) : Prop := ∃ dr dN da sd wt pd sp rd dn w, DrN dr dN ∧ TrAt D h (x + 43) (x + 1) dr da sd wt pd sp ∧ OlAny D h (x + 44) (x + 1) rd dn w
/-- the image: kept and of this station -/
def imK (σ : sg) : Prop := gN σ 25 = 1 ∧ gN σ 26 = gN σ 1
def ClIm (D : va_G) (h : qH) (x : Nat) (σ : sg) : Prop := ∃ pd pp kp rd dn w ws rs n, ImAt D h (x + 79) pd pp (nI kp) ∧ OlAny D h (x + 80) (x + 1) rd dn w ∧ BkAt D h (x + 114) ws rs n ∧ kp < 2 ∧ (kp = 1 ↔ imK σ) ∧
  (imK σ → (∀ j, j < gN σ 29 → pd j = gB σ 32 j) ∧ pp = nI (gN σ 29) ∧ rd = gB σ 31 ∧ dn = gI σ 27 ∧ w = nI (gN σ 28) ∧ ws = gB σ 33 ∧ rs = gB σ 34 ∧ n = nI (gN σ 30))
/-- what the numbers are -/
def InS (σ : sg) : Prop := gN σ 0 ≤ 1 ∧ gN σ 3 ≤ 4 ∧ (gN σ 0 = 1 ↔ 1 ≤ gN σ 3) ∧ gN σ 4 < 10 ∧ gN σ 6 < 3 ∧ gN σ 8 ≤ 4 ∧ gN σ 13 ≤ 12 ∧ gN σ 16 ≤ 16 ∧ (∀ i, i < 9 → gA σ 2 i ≤ 10) ∧ (∀ i, i < gN σ 8 → gA σ 9 i < 5) ∧ gN σ 1 < 2 ^ 30 ∧ (imK σ → gN σ 0 = 1 ∧ gN σ 28 < 3 ∧ gN σ 29 ≤ gN σ 8 ∧ gN σ 30 ≤ 12) ∧ gN σ 25 ≤ 1 ∧ gN σ 26 ≤ gN σ 1 ∧ (gN σ 0 = 0 → gN σ 8 = 0)
def Cls (D : va_G) (h : qH) (x : Nat) (σ : sg) : Prop := InS σ ∧ ClGa h x σ ∧ ClSt D h x σ ∧ ClPg D h x σ ∧ ClOl D h x σ ∧ ClPe D h x σ ∧ ClBk D h x σ ∧ ClTr D h x ∧ ClIm D h x σ

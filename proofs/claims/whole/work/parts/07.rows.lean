/-! Rows over the heaplet kit, with indices told as naturals; what the cells of the program's objects are. -/
section R7
variable {X : qX} {D : va_G} {b : Nat} {l : Launch} {R : Room} {cc : ByteArray} {own : String} {nL : Nat} {k n z : Nat} {h : qH} {pc pc' : Nat} {L L' : List (Nat × Value)} {st : List Value}
theorem g_topi {x y : Int32} (e : x = y) (kk : qG X k n z h pc L (.int y :: st)) : qG X k n z h pc L (.int x :: st) := by subst e; exact kk
theorem g_topl {x y : Int64} (e : x = y) (kk : qG X k n z h pc L (.long y :: st)) : qG X k n z h pc L (.long x :: st) := by subst e; exact kk
theorem q_lsub (ks : List Nat) (hL : lv_pick L ks = L') (kk : qG X k n z h pc L' st) : qG X k n z h pc L st := by
  obtain ⟨D0, b0, p, l0, e, R0, s, m, args, below, meth, c, nL0, Q⟩ := X
  intro H locs ls hP hS hl
  exact kk H locs ls hP hS (lv_sub hl ks hL)
theorem g_iald' (C : qC X D b l R cc own nL) {a N j : Nat} {f : Nat → Int32} {i : Int32} (he : h a = some (cI D N f)) (hi : i = nI j) (hj : j < N) (hN : N < 2 ^ 31) (hdg : decode cc pc = .ok (.iaload, 1)) (hp : pc + 1 = pc') (kk : qG X k n z h pc' L (.int (f j) :: st)) : qG X k n z h pc L (.int i :: .ref a :: st) := by
  subst hi
  exact g_iald C he (vp_in_nI hj hN) hdg hp (by rw [nI_clamp (by omega)]; exact kk)
theorem g_bald' (C : qC X D b l R cc own nL) {a N j : Nat} {f : Nat → Int32} {i : Int32} (he : h a = some (cB D N f)) (hi : i = nI j) (hj : j < N) (hN : N < 2 ^ 31) (hdg : decode cc pc = .ok (.baload, 1)) (hp : pc + 1 = pc') (kk : qG X k n z h pc' L (.int (f j) :: st)) : qG X k n z h pc L (.int i :: .ref a :: st) := by
  subst hi
  exact g_bald C he (vp_in_nI hj hN) hdg hp (by rw [nI_clamp (by omega)]; exact kk)
theorem g_lald' (C : qC X D b l R cc own nL) {a N j : Nat} {f : Nat → Int64} {i : Int32} (he : h a = some (cJ D N f)) (hi : i = nI j) (hj : j < N) (hN : N < 2 ^ 31) (hdg : decode cc pc = .ok (.laload, 1)) (hp : pc + 1 = pc') (kk : qG X k n z h pc' L (.long (f j) :: st)) : qG X k n z h pc L (.int i :: .ref a :: st) := by
  subst hi
  exact g_lald C he (vp_in_nI hj hN) hdg hp (by rw [nI_clamp (by omega)]; exact kk)
theorem g_aaldQ (C : qC X D b l R cc own nL) {a N j q : Nat} {f : Nat → Option Nat} {i : Int32} (he : h a = some (cQ D N f)) (hi : i = nI j) (hj : j < N) (hN : N < 2 ^ 31) (hf : f j = some q) (hdg : decode cc pc = .ok (.aaload, 1)) (hp : pc + 1 = pc') (kk : qG X k n z h pc' L (.ref q :: st)) : qG X k n z h pc L (.int i :: .ref a :: st) := by
  subst hi
  exact g_aald C he (vp_in_nI hj hN) hdg hp (by rw [nI_clamp (by omega), hf]; exact kk)
theorem g_aaldQN (C : qC X D b l R cc own nL) {a N j : Nat} {f : Nat → Option Nat} {i : Int32} (he : h a = some (cQ D N f)) (hi : i = nI j) (hj : j < N) (hN : N < 2 ^ 31) (hf : f j = none) (hdg : decode cc pc = .ok (.aaload, 1)) (hp : pc + 1 = pc') (kk : qG X k n z h pc' L (.null :: st)) : qG X k n z h pc L (.int i :: .ref a :: st) := by
  subst hi
  exact g_aald C he (vp_in_nI hj hN) hdg hp (by rw [nI_clamp (by omega), hf]; exact kk)
theorem g_aaldII (C : qC X D b l R cc own nL) {a N j q : Nat} {f : Nat → Option Nat} {i : Int32} (he : h a = some (cII D N f)) (hi : i = nI j) (hj : j < N) (hN : N < 2 ^ 31) (hf : f j = some q) (hdg : decode cc pc = .ok (.aaload, 1)) (hp : pc + 1 = pc') (kk : qG X k n z h pc' L (.ref q :: st)) : qG X k n z h pc L (.int i :: .ref a :: st) := by
  subst hi
  exact g_aaldI C he (vp_in_nI hj hN) hdg hp (by rw [nI_clamp (by omega), hf]; exact kk)
theorem g_aaldJJ (C : qC X D b l R cc own nL) {a N j q : Nat} {f : Nat → Option Nat} {i : Int32} (he : h a = some (cJJ D N f)) (hi : i = nI j) (hj : j < N) (hN : N < 2 ^ 31) (hf : f j = some q) (hdg : decode cc pc = .ok (.aaload, 1)) (hp : pc + 1 = pc') (kk : qG X k n z h pc' L (.ref q :: st)) : qG X k n z h pc L (.int i :: .ref a :: st) := by
  subst hi
  exact g_aaldJ C he (vp_in_nI hj hN) hdg hp (by rw [nI_clamp (by omega), hf]; exact kk)
theorem g_iast' (C : qC X D b l R cc own nL) {a N j : Nat} {f : Nat → Int32} {i x : Int32} (he : h a = some (cI D N f)) (hi : i = nI j) (hj : j < N) (hN : N < 2 ^ 31) (hdg : decode cc pc = .ok (.iastore, 1)) (hp : pc + 1 = pc') (kk : ∀ h1 : qH, h1 a = some (cI D N (upd f j x)) → (∀ q, q ≠ a → h1 q = h q) → qG X k n z h1 pc' L st) : qG X k n z h pc L (.int x :: .int i :: .ref a :: st) := by
  subst hi
  refine g_iast C he (vp_in_nI hj hN) hdg hp (fun h1 e1 o1 => ?_)
  rw [nI_clamp (by omega)] at e1
  exact kk h1 e1 o1
theorem g_bast' (C : qC X D b l R cc own nL) {a N j : Nat} {f : Nat → Int32} {i x : Int32} (he : h a = some (cB D N f)) (hi : i = nI j) (hj : j < N) (hN : N < 2 ^ 31) (hdg : decode cc pc = .ok (.bastore, 1)) (hp : pc + 1 = pc') (kk : ∀ h1 : qH, h1 a = some (cB D N (upd f j (vp_nar .byte x))) → (∀ q, q ≠ a → h1 q = h q) → qG X k n z h1 pc' L st) : qG X k n z h pc L (.int x :: .int i :: .ref a :: st) := by
  subst hi
  refine g_bast C he (vp_in_nI hj hN) hdg hp (fun h1 e1 o1 => ?_)
  rw [nI_clamp (by omega)] at e1
  exact kk h1 e1 o1
theorem g_last' (C : qC X D b l R cc own nL) {a N j : Nat} {f : Nat → Int64} {i : Int32} {x : Int64} (he : h a = some (cJ D N f)) (hi : i = nI j) (hj : j < N) (hN : N < 2 ^ 31) (hdg : decode cc pc = .ok (.lastore, 1)) (hp : pc + 1 = pc') (kk : ∀ h1 : qH, h1 a = some (cJ D N (vp_updL f j x)) → (∀ q, q ≠ a → h1 q = h q) → qG X k n z h1 pc' L st) : qG X k n z h pc L (.long x :: .int i :: .ref a :: st) := by
  subst hi
  refine g_last C he (vp_in_nI hj hN) hdg hp (fun h1 e1 o1 => ?_)
  rw [nI_clamp (by omega)] at e1
  exact kk h1 e1 o1
end R7
theorem nI_dec (i : Nat) : nI (i + 1) + Int32.ofInt (-1) = nI i := pk_m1 i
theorem ite10_t {P : Prop} {inst : Decidable P} (h : ¬ (if P then (1 : Int32) else 0) = 0) : P := by
  by_cases p : P
  · exact p
  · rw [if_neg p] at h; exact absurd rfl h
theorem ite10_f {P : Prop} {inst : Decidable P} (h : (if P then (1 : Int32) else 0) = 0) : ¬ P := by
  by_cases p : P
  · rw [if_pos p] at h; exact absurd h (by decide)
  · exact p
theorem nar01 {P : Prop} {inst : Decidable P} : narrow .boolean (.int (if P then (1 : Int32) else 0)) = .int (if P then (1 : Int32) else 0) := by
  by_cases p : P
  · rw [if_pos p]; rfl
  · rw [if_neg p]; rfl
theorem i32_of_toInt {x : Int32} {i : Int} (h : x.toInt = i) : x = Int32.ofInt i := by rw [← h]; exact (Int32.ofInt_toInt x).symm
theorem swo_0_2 {x : Int32} (h0 : ¬ x = 0) (h1 : ¬ x = 1) (h2 : ¬ x = 2) : x.toInt < 0 ∨ 2 < x.toInt := by
  rcases Int.lt_or_le x.toInt 0 with g | g
  · exact Or.inl g
  · rcases Int.lt_or_le 2 x.toInt with g2 | g2
    · exact Or.inr g2
    · exfalso
      rcases (show x.toInt = 0 ∨ x.toInt = 1 ∨ x.toInt = 2 by omega) with e | e | e
      · exact h0 (i32_of_toInt e)
      · exact h1 (i32_of_toInt e)
      · exact h2 (i32_of_toInt e)
theorem swo_0_3 {x : Int32} (h0 : ¬ x = 0) (h1 : ¬ x = 1) (h2 : ¬ x = 2) (h3 : ¬ x = 3) : x.toInt < 0 ∨ 3 < x.toInt := by
  rcases swo_0_2 h0 h1 h2 with g | g
  · exact Or.inl g
  · rcases Int.lt_or_le 3 x.toInt with g2 | g2
    · exact Or.inr g2
    · exact absurd (i32_of_toInt (show x.toInt = 3 by omega)) h3
theorem swo_0_4 {x : Int32} (h0 : ¬ x = 0) (h1 : ¬ x = 1) (h2 : ¬ x = 2) (h3 : ¬ x = 3) (h4 : ¬ x = 4) : x.toInt < 0 ∨ 4 < x.toInt := by
  rcases swo_0_3 h0 h1 h2 h3 with g | g
  · exact Or.inl g
  · rcases Int.lt_or_le 4 x.toInt with g2 | g2
    · exact Or.inr g2
    · exact absurd (i32_of_toInt (show x.toInt = 4 by omega)) h4
theorem swo_0_9 {x : Int32} (h0 : ¬ x = 0) (h1 : ¬ x = 1) (h2 : ¬ x = 2) (h3 : ¬ x = 3) (h4 : ¬ x = 4) (h5 : ¬ x = 5) (h6 : ¬ x = 6) (h7 : ¬ x = 7) (h8 : ¬ x = 8) (h9 : ¬ x = 9) : x.toInt < 0 ∨ 9 < x.toInt := by
  rcases swo_0_4 h0 h1 h2 h3 h4 with g | g
  · exact Or.inl g
  · rcases Int.lt_or_le 9 x.toInt with g2 | g2
    · exact Or.inr g2
    · exfalso
      rcases (show x.toInt = 5 ∨ x.toInt = 6 ∨ x.toInt = 7 ∨ x.toInt = 8 ∨ x.toInt = 9 by omega) with e | e | e | e | e
      · exact h5 (i32_of_toInt e)
      · exact h6 (i32_of_toInt e)
      · exact h7 (i32_of_toInt e)
      · exact h8 (i32_of_toInt e)
      · exact h9 (i32_of_toInt e)
theorem swo_1_4 {x : Int32} (h1 : ¬ x = 1) (h2 : ¬ x = 2) (h3 : ¬ x = 3) (h4 : ¬ x = 4) : x.toInt < 1 ∨ 4 < x.toInt := by
  rcases Int.lt_or_le x.toInt 1 with g | g
  · exact Or.inl g
  · rcases Int.lt_or_le 4 x.toInt with g2 | g2
    · exact Or.inr g2
    · exfalso
      rcases (show x.toInt = 1 ∨ x.toInt = 2 ∨ x.toInt = 3 ∨ x.toInt = 4 by omega) with e | e | e | e
      · exact h1 (i32_of_toInt e)
      · exact h2 (i32_of_toInt e)
      · exact h3 (i32_of_toInt e)
      · exact h4 (i32_of_toInt e)
theorem swo_1_3 {x : Int32} (h1 : ¬ x = 1) (h2 : ¬ x = 2) (h3 : ¬ x = 3) : x.toInt < 1 ∨ 3 < x.toInt := by
  rcases Int.lt_or_le x.toInt 1 with g | g
  · exact Or.inl g
  · rcases Int.lt_or_le 3 x.toInt with g2 | g2
    · exact Or.inr g2
    · exfalso
      rcases (show x.toInt = 1 ∨ x.toInt = 2 ∨ x.toInt = 3 by omega) with e | e | e
      · exact h1 (i32_of_toInt e)
      · exact h2 (i32_of_toInt e)
      · exact h3 (i32_of_toInt e)
def mx64 (x y : Int64) : Int64 := if y < x then x else y
def mn64 (x y : Int64) : Int64 := if y < x then y else x
/-! ### what the cells are -/
def PgAt (D : va_G) (h : qH) (a : Nat) (cs : Nat → Int32) (n : Int32) : Prop := h a = some (.inr (8, [.ref (a + 1), .int n])) ∧ h (a + 1) = some (cI D 16 cs)
def StAt (D : va_G) (h : qH) (a : Nat) (tn : Nat → Int32) (e sl : Int32) : Prop := h a = some (.inr (9, [.ref (a + 1), .int e, .int sl])) ∧ h (a + 1) = some (cI D 9 tn)
def BkAt (D : va_G) (h : qH) (a : Nat) (ws rs : Nat → Int32) (n : Int32) : Prop := h a = some (.inr (0, [.ref (a + 1), .ref (a + 2), .int n])) ∧ h (a + 1) = some (cI D 12 ws) ∧ h (a + 2) = some (cI D 12 rs)
def gridF (a : Nat) : Nat → Option Nat := fun i => if i < 7 then some (a + 1 + i) else none
theorem gridF_at {a i : Nat} (h : i < 7) : gridF a i = some (a + 1 + i) := if_pos h
def GrJ (D : va_G) (h : qH) (a : Nat) (U : Nat → Nat → Int64) : Prop := h a = some (cJJ D 7 (gridF a)) ∧ ∀ i, i < 7 → h (a + 1 + i) = some (cJ D 3 (U i))
def GrI (D : va_G) (h : qH) (a : Nat) (U : Nat → Nat → Int32) : Prop := h a = some (cII D 7 (gridF a)) ∧ ∀ i, i < 7 → h (a + 1 + i) = some (cI D 3 (U i))
theorem GrJ.put {D : va_G} {h h1 : qH} {a i : Nat} {U : Nat → Nat → Int64} {g : Nat → Int64} (H : GrJ D h a U) (hi : i < 7) (e1 : h1 (a + 1 + i) = some (cJ D 3 g)) (o1 : ∀ q, q ≠ a + 1 + i → h1 q = h q) : GrJ D h1 a (va_up U i g) := by
  refine ⟨(o1 _ (by omega)).trans H.1, fun j hj => ?_⟩
  by_cases e : j = i
  · subst e; simp only [va_up, if_true]; exact e1
  · simp only [va_up, if_neg e]; exact (o1 _ (by omega)).trans (H.2 j hj)
theorem GrI.put {D : va_G} {h h1 : qH} {a i : Nat} {U : Nat → Nat → Int32} {g : Nat → Int32} (H : GrI D h a U) (hi : i < 7) (e1 : h1 (a + 1 + i) = some (cI D 3 g)) (o1 : ∀ q, q ≠ a + 1 + i → h1 q = h q) : GrI D h1 a (va_up U i g) := by
  refine ⟨(o1 _ (by omega)).trans H.1, fun j hj => ?_⟩
  by_cases e : j = i
  · subst e; simp only [va_up, if_true]; exact e1
  · simp only [va_up, if_neg e]; exact (o1 _ (by omega)).trans (H.2 j hj)
def OlAt (D : va_G) (h : qH) (a s : Nat) (rd : Nat → Int32) (dn w : Int32) : Prop := h a = some (.inr (7, [.ref s, .ref (a + 1), .int dn, .int w, .ref (a + 2), .ref (a + 10), .ref (a + 18), .ref (a + 26)])) ∧ h (a + 1) = some (cI D 5 rd)
def TrAt (D : va_G) (h : qH) (a s : Nat) (dr : Nat → Int32) (da : Int32) (sd : Int64) (wt pd sp : Int32) : Prop := h a = some (.inr (10, [.ref s, .ref (a + 1), .ref (a + 35), .int da, .long sd, .int wt, .int pd, .int sp])) ∧ h (a + 35) = some (cI D 5 dr)
def ImAt (D : va_G) (h : qH) (a : Nat) (pd : Nat → Int32) (pp kp : Int32) : Prop := h a = some (.inr (3, [.ref (a + 1), .ref (a + 35), .ref (a + 38), .int pp, .int kp])) ∧ h (a + 38) = some (cI D 4 pd)
def KpAt (h : qH) (a ci : Nat) (cost loss paid : Int32) : Prop := h a = some (.inr (ci, [.int cost, .int loss, .int paid]))
def GaAt (h : qH) (a : Nat) (n : Int32) : Prop := h a = some (.inr (11, [.ref (a + 3), .ref (a + 1), .ref (a + 5), .ref (a + 39), .ref (a + 40), .ref (a + 43), .ref (a + 79), .int n]))
theorem fr_of {h h1 : qH} {a : Nat} {P : Nat → Prop} (o : ∀ q, q ≠ a → h1 q = h q) (hP : ∀ q, P q → q ≠ a) : ∀ q, P q → h1 q = h q := fun q hq => o q (hP q hq)

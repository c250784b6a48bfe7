/-! The heaplet level: a heaplet h says of some addresses what stands there; qP: the heap holds it; qG: from any heap that holds h, at pc with these locals and this stack, the machine comes to Q. -/
abbrev qH : Type := Nat → Option va_E
def AW : List Cond := lw_tbl.filter goodWord
theorem AW_m {w : Cond} (i : Nat) (h : lw_tbl[i]? = some w) (hg : goodWord w = true) : w ∈ AW := List.mem_filter.mpr ⟨List.mem_of_getElem? h, hg⟩
def wm (y : MethodName) (c : ByteArray) (n : Nat) (r : Option FieldType) : List Cond := .code y c n r :: AW
def qA (b : Nat) : Nat → Prop := fun q => b ≤ q
def qP (D : va_G) (b : Nat) (h : qH) (z : Nat) (H : Heap) : Prop := H.size = z ∧ b ≤ z ∧ ∀ a e, h a = some e → b ≤ a ∧ va_at D vwCl (a, e) H
abbrev cI (D : va_G) (n : Nat) (f : Nat → Int32) : va_E := .inl (D.1 20, n, .inl f)
abbrev cJ (D : va_G) (n : Nat) (f : Nat → Int64) : va_E := .inl (D.1 21, n, .inr (.inl f))
abbrev cB (D : va_G) (n : Nat) (f : Nat → Int32) : va_E := .inl (D.1 22, n, .inl f)
abbrev cQ (D : va_G) (n : Nat) (f : Nat → Option Nat) : va_E := .inl (D.1 23, n, .inr (.inr (.inr (.inr f))))
abbrev cII (D : va_G) (n : Nat) (f : Nat → Option Nat) : va_E := .inl (D.1 24, n, .inr (.inr (.inr (.inr f))))
abbrev cJJ (D : va_G) (n : Nat) (f : Nat → Option Nat) : va_E := .inl (D.1 25, n, .inr (.inr (.inr (.inr f))))
def qT (D : va_G) : List (ClassId × FieldType) := [(D.1 20, .int), (D.1 21, .long), (D.1 22, .byte), (D.1 23, .object "EarlyGauge$Keeper"), (D.1 24, .array .int), (D.1 25, .array .long)]
def qNF : List (String × Nat × String × String × String × String) := [("EarlyGauge", 134, "EarlyGauge$Outlook", "dayNumber", "I", "EarlyGauge"), ("EarlyGauge", 209, "EarlyGauge$Outlook", "weather", "I", "EarlyGauge"), ("EarlyGauge", 223, "EarlyGauge$Trial", "wet", "I", "EarlyGauge"), ("EarlyGauge", 226, "EarlyGauge$Trial", "paid", "I", "EarlyGauge"), ("EarlyGauge", 227, "EarlyGauge$Trial", "slipped", "I", "EarlyGauge"), ("EarlyGauge", 230, "EarlyGauge$Trial", "seed", "J", "EarlyGauge"), ("EarlyGauge", 234, "EarlyGauge$Image", "coming", "LEarlyGauge$Outlook;", "EarlyGauge"), ("EarlyGauge", 239, "EarlyGauge$Image", "book", "LEarlyGauge$Book;", "EarlyGauge"), ("EarlyGauge", 246, "EarlyGauge$Image", "people", "I", "EarlyGauge"), ("EarlyGauge", 248, "EarlyGauge$Image", "paid", "[I", "EarlyGauge"), ("EarlyGauge", 251, "EarlyGauge$Station", "slip", "I", "EarlyGauge"), ("EarlyGauge", 67, "EarlyGauge$Page", "letters", "I", "EarlyGauge"), ("EarlyGauge", 87, "EarlyGauge$Book", "days", "I", "EarlyGauge"), ("EarlyGauge", 90, "EarlyGauge$Image", "kept", "Z", "EarlyGauge"), ("EarlyGauge", 97, "EarlyGauge$Station", "early", "I", "EarlyGauge"), ("EarlyGauge$Outlook", 45, "EarlyGauge$Station", "early", "I", "EarlyGauge"), ("EarlyGauge$Trial", 46, "EarlyGauge$Station", "early", "I", "EarlyGauge"), ("EarlyGauge$Trial", 59, "EarlyGauge$Station", "slip", "I", "EarlyGauge")]
def qNM : List (String × Nat × MethodName × String) := [("EarlyGauge", 12, ⟨"EarlyGauge$Page", "<init>", "()V"⟩, "EarlyGauge"), ("EarlyGauge", 40, ⟨"EarlyGauge$Book", "<init>", "()V"⟩, "EarlyGauge"), ("EarlyGauge", 9, ⟨"EarlyGauge$Station", "<init>", "()V"⟩, "EarlyGauge"), ("EarlyGauge$Outlook", 54, ⟨"EarlyGauge", "isAhead", "(I)Z"⟩, "EarlyGauge"), ("EarlyGauge$Outlook", 58, ⟨"EarlyGauge", "isWeather", "(I)Z"⟩, "EarlyGauge")]
def qNC : List (String × String) := [("EarlyGauge$Miser", "EarlyGauge$Farmer"), ("EarlyGauge$Contrary", "EarlyGauge$Farmer"), ("EarlyGauge$Knees", "EarlyGauge$Farmer"), ("EarlyGauge$Keeper", "EarlyGauge$Farmer"), ("EarlyGauge$Farmer", "EarlyGauge$Miser"), ("EarlyGauge$Contrary", "EarlyGauge$Miser"), ("EarlyGauge$Knees", "EarlyGauge$Miser"), ("EarlyGauge$Keeper", "EarlyGauge$Miser"), ("EarlyGauge$Farmer", "EarlyGauge$Contrary"), ("EarlyGauge$Miser", "EarlyGauge$Contrary"), ("EarlyGauge$Keeper", "EarlyGauge$Contrary"), ("EarlyGauge$Farmer", "EarlyGauge$Knees"), ("EarlyGauge$Miser", "EarlyGauge$Knees"), ("EarlyGauge$Contrary", "EarlyGauge$Knees"), ("EarlyGauge$Keeper", "EarlyGauge$Knees")]
def qYC : List (String × String) := [("EarlyGauge$Contrary", "EarlyGauge$Keeper"), ("EarlyGauge$Farmer", "EarlyGauge$Keeper"), ("EarlyGauge$Knees", "EarlyGauge$Contrary"), ("EarlyGauge$Knees", "EarlyGauge$Keeper"), ("EarlyGauge$Miser", "EarlyGauge$Keeper")]
def qK (D : va_G) (U : State) : Prop := va_K D vwCl (qT D) U ∧ (∀ w ∈ qNF, va_Nw (.fieldLinkNest w.1 w.2.1 w.2.2.1 w.2.2.2.1 w.2.2.2.2.1 w.2.2.2.2.2) U) ∧ (∀ w ∈ qNM, va_Nw (.methodLinkNest w.1 w.2.1 w.2.2.1 w.2.2.2) U) ∧ (∀ w ∈ qYC, va_Nw (.castable w.1 w.2) U) ∧ (∀ w ∈ qNC, va_Nc w.1 w.2 U) ∧ va_AO "EarlyGauge$Keeper" U ∧ va_AOA .int U ∧ va_AOA .long U
theorem qK.same {D : va_G} {u U : State} (e : u.vm = U.vm) (h : qK D u) : qK D U := by
  obtain ⟨h1, h2, h3, h4, h5, h6, h7, h8⟩ := h
  have hA : u.vm.Alike U.vm := by rw [e]; exact Vm.Alike.refl _
  exact ⟨h1.moved hA, fun w hw => va_Nw.same rfl e (h2 w hw), fun w hw => va_Nw.same rfl e (h3 w hw), fun w hw => va_Nw.same rfl e (h4 w hw), fun w hw => (h5 w hw).moved hA, h6.moved hA, h7.moved hA, h8.moved hA⟩
theorem qK.warm {D : va_G} {s U : State} (hW : s.WarmedH U.vm) (h : qK D s) : qK D U := by
  obtain ⟨h1, h2, h3, h4, h5, h6, h7, h8⟩ := h
  have hA : s.vm.Alike U.vm := hW.alike
  exact ⟨h1.moved hA, fun w hw => va_Nw.warmF hW (h2 w hw), fun w hw => va_Nw.warmM hW (h3 w hw), fun w hw => va_Nw.warmC hW (h4 w hw), fun w hw => (h5 w hw).moved hA, h6.moved hA, h7.moved hA, h8.moved hA⟩
theorem qP.one {D : va_G} {b : Nat} {h : qH} {z : Nat} {H : Heap} (hP : qP D b h z H) {a : Nat} {e : va_E} (he : h a = some e) : va_P D vwCl [(a, e)] H := by
  intro k q hq
  cases k with
  | zero => cases hq; exact (hP.2.2 a e he).2
  | succ k => cases hq
theorem qP.oneD {D : va_G} {b : Nat} {h : qH} {z : Nat} {H : Heap} (hP : qP D b h z H) {a : Nat} {e : va_E} (he : h a = some e) : va_D (qA b) [(a, e)] := by
  refine ⟨fun i j p q hi hj _ => ?_, fun k q hq => ?_⟩
  · cases i with
    | succ i => cases hi
    | zero => cases j with
      | succ j => cases hj
      | zero => rfl
  · cases k with
    | zero => cases hq; exact (hP.2.2 a e he).1
    | succ k => cases hq
theorem qP.lt {D : va_G} {b : Nat} {h : qH} {z : Nat} {H : Heap} (hP : qP D b h z H) {a : Nat} {e : va_E} (he : h a = some e) : a < z := by
  rw [← hP.1]; exact (hP.2.2 a e he).2.lt
theorem qP.set {D : va_G} {b : Nat} {h : qH} {z : Nat} {H H1 : Heap} (hP : qP D b h z H) {a : Nat} {e0 e : va_E} (he : h a = some e0) (h1 : va_at D vwCl (a, e) H1) (zs : H1.size = H.size) (oq : ∀ q : Nat, q ≠ a → H1[q]? = H[q]?) : qP D b (va_up h a (some e)) z H1 := by
  refine ⟨zs.trans hP.1, hP.2.1, fun a' e' h' => ?_⟩
  by_cases ha : a' = a
  · subst ha
    simp only [va_up, if_true] at h'
    cases h'
    exact ⟨(hP.2.2 _ _ he).1, h1⟩
  · simp only [va_up, if_neg ha] at h'
    obtain ⟨g1, g2⟩ := hP.2.2 a' e' h'
    exact ⟨g1, g2.kept (oq a' ha)⟩
theorem qP.push {D : va_G} {b : Nat} {h : qH} {z : Nat} {H H1 : Heap} (hP : qP D b h z H) {e : va_E} (h1 : va_at D vwCl (z, e) H1) (zs : H1.size = z + 1) (oq : ∀ q : Nat, q < z → H1[q]? = H[q]?) : qP D b (va_up h z (some e)) (z + 1) H1 := by
  refine ⟨zs, Nat.le_succ_of_le hP.2.1, fun a' e' h' => ?_⟩
  by_cases ha : a' = z
  · subst ha
    simp only [va_up, if_true] at h'
    cases h'
    exact ⟨hP.2.1, h1⟩
  · simp only [va_up, if_neg ha] at h'
    obtain ⟨g1, g2⟩ := hP.2.2 a' e' h'
    exact ⟨g1, g2.kept (oq a' (hP.lt h'))⟩
theorem q_at {h : qH} {a : Nat} {e : Option va_E} : va_up h a e a = e := if_pos rfl
theorem q_ne {h : qH} {a q : Nat} {e : Option va_E} (hq : q ≠ a) : va_up h a e q = h q := if_neg hq
abbrev qX : Type := va_G × Nat × Program × Launch × Env × Room × State × MethodId × Array Value × List Frame × Method × Code × Nat × (State → Prop)
def qG : qX → Nat → Nat → Nat → qH → Nat → List (Nat × Value) → List Value → Prop
  | (D, b, p, l, e, R, s, m, args, below, meth, c, nL, Q), k, n, z, h, pc, L, st => ∀ (H : Heap) (locs : List Loc) (ls : Array Slot), qP D b h z H → va_S (qA b) s.heap H locs → lv_has ls nL L → W p l e R s m args below meth c H locs k n Q (F0 m pc ls st)
def qC : qX → va_G → Nat → Launch → Room → ByteArray → String → Nat → Prop
  | (D0, b0, p, l0, _, R0, s, m, args, _, _, c, nL0, _), D, b, l, R, cc, own, nL => D0 = D ∧ b0 = b ∧ l0 = l ∧ R0 = R ∧ nL0 = nL ∧ p.tables.exec = Jvm.exec ∧ c.code = cc ∧ c.maxLocals = nL ∧ s.vm.findClass own = some m.cls ∧ (∀ w ∈ AW, w.before args s = true) ∧ qK D s ∧ b ≤ s.heap.size
section QG
variable {X : qX} {D : va_G} {b : Nat} {l : Launch} {R : Room} {cc : ByteArray} {own : String} {nL : Nat} {k n z : Nat} {h : qH} {pc pc' : Nat} {L : List (Nat × Value)} {st : List Value}
theorem g_iconst (C : qC X D b l R cc own nL) {i : Int} {v : Int32} (hdg : decode cc pc = .ok (.iconst i, 1)) (hv : Int32.ofInt i = v) (hp : pc + 1 = pc') (kk : qG X k n z h pc' L (.int v :: st)) : qG X k n z h pc L (st) := by
  obtain ⟨D0, b0, p, l0, e, R0, s, m, args, below, meth, c, nL0, Q⟩ := X
  obtain ⟨rfl, rfl, rfl, rfl, rfl, hx, hb, hml, hown, hts, hK, hbs⟩ := C
  subst hp
  intro H locs ls hP hS hl
  exact lv_iconst hx hb hdg hv (kk H locs ls hP hS hl)
theorem g_bipush (C : qC X D b l R cc own nL) {i : Int} {v : Int32} (hdg : decode cc pc = .ok (.bipush i, 2)) (hv : (Int8.ofInt i).toInt32 = v) (hp : pc + 2 = pc') (kk : qG X k n z h pc' L (.int v :: st)) : qG X k n z h pc L (st) := by
  obtain ⟨D0, b0, p, l0, e, R0, s, m, args, below, meth, c, nL0, Q⟩ := X
  obtain ⟨rfl, rfl, rfl, rfl, rfl, hx, hb, hml, hown, hts, hK, hbs⟩ := C
  subst hp
  intro H locs ls hP hS hl
  exact lv_bipush hx hb hdg hv (kk H locs ls hP hS hl)
theorem g_sipush (C : qC X D b l R cc own nL) {i : Int} {v : Int32} (hdg : decode cc pc = .ok (.sipush i, 3)) (hv : (Int16.ofInt i).toInt32 = v) (hp : pc + 3 = pc') (kk : qG X k n z h pc' L (.int v :: st)) : qG X k n z h pc L (st) := by
  obtain ⟨D0, b0, p, l0, e, R0, s, m, args, below, meth, c, nL0, Q⟩ := X
  obtain ⟨rfl, rfl, rfl, rfl, rfl, hx, hb, hml, hown, hts, hK, hbs⟩ := C
  subst hp
  intro H locs ls hP hS hl
  exact lv_sipush hx hb hdg hv (kk H locs ls hP hS hl)
theorem g_lconst (C : qC X D b l R cc own nL) {i : Fin 2} {v : Int64} (hdg : decode cc pc = .ok (.lconst i, 1)) (hv : Int64.ofNat (i : Nat) = v) (hp : pc + 1 = pc') (kk : qG X k n z h pc' L (.long v :: st)) : qG X k n z h pc L (st) := by
  obtain ⟨D0, b0, p, l0, e, R0, s, m, args, below, meth, c, nL0, Q⟩ := X
  obtain ⟨rfl, rfl, rfl, rfl, rfl, hx, hb, hml, hown, hts, hK, hbs⟩ := C
  subst hp
  intro H locs ls hP hS hl
  exact lv_lconst hx hb hdg hv (kk H locs ls hP hS hl)
theorem g_ldc2 (C : qC X D b l R cc own nL) {i : Nat} {v : Int64} (hw : Cond.constantLong own i v ∈ AW) (hdg : decode cc pc = .ok (.ldc2_w i, 3)) (hp : pc + 3 = pc') (kk : qG X k n z h pc' L (.long v :: st)) : qG X k n z h pc L (st) := by
  obtain ⟨D0, b0, p, l0, e, R0, s, m, args, below, meth, c, nL0, Q⟩ := X
  obtain ⟨rfl, rfl, rfl, rfl, rfl, hx, hb, hml, hown, hts, hK, hbs⟩ := C
  subst hp
  intro H locs ls hP hS hl
  exact lv_ldc2 hx hb hown (hts _ hw) hdg (kk H locs ls hP hS hl)
theorem g_null (C : qC X D b l R cc own nL)  (hdg : decode cc pc = .ok (.aconst_null, 1)) (hp : pc + 1 = pc') (kk : qG X k n z h pc' L (.null :: st)) : qG X k n z h pc L (st) := by
  obtain ⟨D0, b0, p, l0, e, R0, s, m, args, below, meth, c, nL0, Q⟩ := X
  obtain ⟨rfl, rfl, rfl, rfl, rfl, hx, hb, hml, hown, hts, hK, hbs⟩ := C
  subst hp
  intro H locs ls hP hS hl
  exact lv_null hx hb hdg (kk H locs ls hP hS hl)
theorem g_iload_n (C : qC X D b l R cc own nL) {f : Fin 4} {i : Nat} {x : Int32} (q : Nat) (hdg : decode cc pc = .ok (.iload_n f, 1)) (hi : (f : Nat) = i) (hq : L[q]? = some (i, .int x)) (hp : pc + 1 = pc') (kk : qG X k n z h pc' L (.int x :: st)) : qG X k n z h pc L (st) := by
  obtain ⟨D0, b0, p, l0, e, R0, s, m, args, below, meth, c, nL0, Q⟩ := X
  obtain ⟨rfl, rfl, rfl, rfl, rfl, hx, hb, hml, hown, hts, hK, hbs⟩ := C
  subst hp
  intro H locs ls hP hS hl
  exact lv_iload_n hx hb hdg hi (lv_at hl q hq) (kk H locs ls hP hS hl)
theorem g_iload (C : qC X D b l R cc own nL) {i : Nat} {x : Int32} (q : Nat) (hdg : decode cc pc = .ok (.iload i, 2)) (hq : L[q]? = some (i, .int x)) (hp : pc + 2 = pc') (kk : qG X k n z h pc' L (.int x :: st)) : qG X k n z h pc L (st) := by
  obtain ⟨D0, b0, p, l0, e, R0, s, m, args, below, meth, c, nL0, Q⟩ := X
  obtain ⟨rfl, rfl, rfl, rfl, rfl, hx, hb, hml, hown, hts, hK, hbs⟩ := C
  subst hp
  intro H locs ls hP hS hl
  exact lv_iload hx hb hdg (lv_at hl q hq) (kk H locs ls hP hS hl)
theorem g_lload_n (C : qC X D b l R cc own nL) {f : Fin 4} {i : Nat} {x : Int64} (q : Nat) (hdg : decode cc pc = .ok (.lload_n f, 1)) (hi : (f : Nat) = i) (hq : L[q]? = some (i, .long x)) (hp : pc + 1 = pc') (kk : qG X k n z h pc' L (.long x :: st)) : qG X k n z h pc L (st) := by
  obtain ⟨D0, b0, p, l0, e, R0, s, m, args, below, meth, c, nL0, Q⟩ := X
  obtain ⟨rfl, rfl, rfl, rfl, rfl, hx, hb, hml, hown, hts, hK, hbs⟩ := C
  subst hp
  intro H locs ls hP hS hl
  exact lv_lload_n hx hb hdg hi (lv_at hl q hq) (kk H locs ls hP hS hl)
theorem g_lload (C : qC X D b l R cc own nL) {i : Nat} {x : Int64} (q : Nat) (hdg : decode cc pc = .ok (.lload i, 2)) (hq : L[q]? = some (i, .long x)) (hp : pc + 2 = pc') (kk : qG X k n z h pc' L (.long x :: st)) : qG X k n z h pc L (st) := by
  obtain ⟨D0, b0, p, l0, e, R0, s, m, args, below, meth, c, nL0, Q⟩ := X
  obtain ⟨rfl, rfl, rfl, rfl, rfl, hx, hb, hml, hown, hts, hK, hbs⟩ := C
  subst hp
  intro H locs ls hP hS hl
  exact lv_lload hx hb hdg (lv_at hl q hq) (kk H locs ls hP hS hl)
theorem g_aload_n (C : qC X D b l R cc own nL) {f : Fin 4} {i : Nat} {x : Nat} (q : Nat) (hdg : decode cc pc = .ok (.aload_n f, 1)) (hi : (f : Nat) = i) (hq : L[q]? = some (i, .ref x)) (hp : pc + 1 = pc') (kk : qG X k n z h pc' L (.ref x :: st)) : qG X k n z h pc L (st) := by
  obtain ⟨D0, b0, p, l0, e, R0, s, m, args, below, meth, c, nL0, Q⟩ := X
  obtain ⟨rfl, rfl, rfl, rfl, rfl, hx, hb, hml, hown, hts, hK, hbs⟩ := C
  subst hp
  intro H locs ls hP hS hl
  exact lv_aload_n hx hb hdg hi (lv_at hl q hq) (kk H locs ls hP hS hl)
theorem g_aload (C : qC X D b l R cc own nL) {i : Nat} {x : Nat} (q : Nat) (hdg : decode cc pc = .ok (.aload i, 2)) (hq : L[q]? = some (i, .ref x)) (hp : pc + 2 = pc') (kk : qG X k n z h pc' L (.ref x :: st)) : qG X k n z h pc L (st) := by
  obtain ⟨D0, b0, p, l0, e, R0, s, m, args, below, meth, c, nL0, Q⟩ := X
  obtain ⟨rfl, rfl, rfl, rfl, rfl, hx, hb, hml, hown, hts, hK, hbs⟩ := C
  subst hp
  intro H locs ls hP hS hl
  exact lv_aload hx hb hdg (lv_at hl q hq) (kk H locs ls hP hS hl)
theorem g_aload_nN (C : qC X D b l R cc own nL) {f : Fin 4} {i : Nat} (q : Nat) (hdg : decode cc pc = .ok (.aload_n f, 1)) (hi : (f : Nat) = i) (hq : L[q]? = some (i, .null)) (hp : pc + 1 = pc') (kk : qG X k n z h pc' L (.null :: st)) : qG X k n z h pc L (st) := by
  obtain ⟨D0, b0, p, l0, e, R0, s, m, args, below, meth, c, nL0, Q⟩ := X
  obtain ⟨rfl, rfl, rfl, rfl, rfl, hx, hb, hml, hown, hts, hK, hbs⟩ := C
  subst hp
  intro H locs ls hP hS hl
  exact lv_aload_nN hx hb hdg hi (lv_at hl q hq) (kk H locs ls hP hS hl)
theorem g_aloadN (C : qC X D b l R cc own nL) {i : Nat} (q : Nat) (hdg : decode cc pc = .ok (.aload i, 2)) (hq : L[q]? = some (i, .null)) (hp : pc + 2 = pc') (kk : qG X k n z h pc' L (.null :: st)) : qG X k n z h pc L (st) := by
  obtain ⟨D0, b0, p, l0, e, R0, s, m, args, below, meth, c, nL0, Q⟩ := X
  obtain ⟨rfl, rfl, rfl, rfl, rfl, hx, hb, hml, hown, hts, hK, hbs⟩ := C
  subst hp
  intro H locs ls hP hS hl
  exact lv_aloadN hx hb hdg (lv_at hl q hq) (kk H locs ls hP hS hl)
theorem g_istore_n (C : qC X D b l R cc own nL) {f : Fin 4} {i : Nat} {x : Int32} (L' : List (Nat × Value)) (hdg : decode cc pc = .ok (.istore_n f, 1)) (hi : (f : Nat) = i) (hn : i < nL) (hL : (i, Value.int x) :: L.filter (fun q => !(q.1 == i) && !(q.1 + 1 == i && q.2.category == 2)) = L') (hp : pc + 1 = pc') (kk : qG X k n z h pc' L' st) : qG X k n z h pc L (Value.int x :: st) := by
  obtain ⟨D0, b0, p, l0, e, R0, s, m, args, below, meth, c, nL0, Q⟩ := X
  obtain ⟨rfl, rfl, rfl, rfl, rfl, hx, hb, hml, hown, hts, hK, hbs⟩ := C
  subst hp
  intro H locs ls hP hS hl
  exact lv_istore_n (lv' := L') hx hb hdg hi hl hn hL (fun ls hl => kk H locs ls hP hS hl)
theorem g_istore (C : qC X D b l R cc own nL) {i : Nat} {x : Int32} (L' : List (Nat × Value)) (hdg : decode cc pc = .ok (.istore i, 2)) (hn : i < nL) (hL : (i, Value.int x) :: L.filter (fun q => !(q.1 == i) && !(q.1 + 1 == i && q.2.category == 2)) = L') (hp : pc + 2 = pc') (kk : qG X k n z h pc' L' st) : qG X k n z h pc L (Value.int x :: st) := by
  obtain ⟨D0, b0, p, l0, e, R0, s, m, args, below, meth, c, nL0, Q⟩ := X
  obtain ⟨rfl, rfl, rfl, rfl, rfl, hx, hb, hml, hown, hts, hK, hbs⟩ := C
  subst hp
  intro H locs ls hP hS hl
  exact lv_istore (lv' := L') hx hb hdg hl hn hL (fun ls hl => kk H locs ls hP hS hl)
theorem g_lstore_n (C : qC X D b l R cc own nL) {f : Fin 4} {i : Nat} {x : Int64} (L' : List (Nat × Value)) (hdg : decode cc pc = .ok (.lstore_n f, 1)) (hi : (f : Nat) = i) (hn : i + 1 < nL) (hL : (i, Value.long x) :: L.filter (fun q => !(q.1 == i) && (!(q.1 == i + 1) && !(q.1 + 1 == i && q.2.category == 2))) = L') (hp : pc + 1 = pc') (kk : qG X k n z h pc' L' st) : qG X k n z h pc L (Value.long x :: st) := by
  obtain ⟨D0, b0, p, l0, e, R0, s, m, args, below, meth, c, nL0, Q⟩ := X
  obtain ⟨rfl, rfl, rfl, rfl, rfl, hx, hb, hml, hown, hts, hK, hbs⟩ := C
  subst hp
  intro H locs ls hP hS hl
  exact lv_lstore_n (lv' := L') hx hb hdg hi hl hn hL (fun ls hl => kk H locs ls hP hS hl)
theorem g_lstore (C : qC X D b l R cc own nL) {i : Nat} {x : Int64} (L' : List (Nat × Value)) (hdg : decode cc pc = .ok (.lstore i, 2)) (hn : i + 1 < nL) (hL : (i, Value.long x) :: L.filter (fun q => !(q.1 == i) && (!(q.1 == i + 1) && !(q.1 + 1 == i && q.2.category == 2))) = L') (hp : pc + 2 = pc') (kk : qG X k n z h pc' L' st) : qG X k n z h pc L (Value.long x :: st) := by
  obtain ⟨D0, b0, p, l0, e, R0, s, m, args, below, meth, c, nL0, Q⟩ := X
  obtain ⟨rfl, rfl, rfl, rfl, rfl, hx, hb, hml, hown, hts, hK, hbs⟩ := C
  subst hp
  intro H locs ls hP hS hl
  exact lv_lstore (lv' := L') hx hb hdg hl hn hL (fun ls hl => kk H locs ls hP hS hl)
theorem g_astore_n (C : qC X D b l R cc own nL) {f : Fin 4} {i : Nat} {x : Nat} (L' : List (Nat × Value)) (hdg : decode cc pc = .ok (.astore_n f, 1)) (hi : (f : Nat) = i) (hn : i < nL) (hL : (i, Value.ref x) :: L.filter (fun q => !(q.1 == i) && !(q.1 + 1 == i && q.2.category == 2)) = L') (hp : pc + 1 = pc') (kk : qG X k n z h pc' L' st) : qG X k n z h pc L (Value.ref x :: st) := by
  obtain ⟨D0, b0, p, l0, e, R0, s, m, args, below, meth, c, nL0, Q⟩ := X
  obtain ⟨rfl, rfl, rfl, rfl, rfl, hx, hb, hml, hown, hts, hK, hbs⟩ := C
  subst hp
  intro H locs ls hP hS hl
  exact lv_astore_n (lv' := L') hx hb hdg hi hl hn hL (fun ls hl => kk H locs ls hP hS hl)
theorem g_astore (C : qC X D b l R cc own nL) {i : Nat} {x : Nat} (L' : List (Nat × Value)) (hdg : decode cc pc = .ok (.astore i, 2)) (hn : i < nL) (hL : (i, Value.ref x) :: L.filter (fun q => !(q.1 == i) && !(q.1 + 1 == i && q.2.category == 2)) = L') (hp : pc + 2 = pc') (kk : qG X k n z h pc' L' st) : qG X k n z h pc L (Value.ref x :: st) := by
  obtain ⟨D0, b0, p, l0, e, R0, s, m, args, below, meth, c, nL0, Q⟩ := X
  obtain ⟨rfl, rfl, rfl, rfl, rfl, hx, hb, hml, hown, hts, hK, hbs⟩ := C
  subst hp
  intro H locs ls hP hS hl
  exact lv_astore (lv' := L') hx hb hdg hl hn hL (fun ls hl => kk H locs ls hP hS hl)
theorem g_astore_nN (C : qC X D b l R cc own nL) {f : Fin 4} {i : Nat}  (L' : List (Nat × Value)) (hdg : decode cc pc = .ok (.astore_n f, 1)) (hi : (f : Nat) = i) (hn : i < nL) (hL : (i, Value.null) :: L.filter (fun q => !(q.1 == i) && !(q.1 + 1 == i && q.2.category == 2)) = L') (hp : pc + 1 = pc') (kk : qG X k n z h pc' L' st) : qG X k n z h pc L (Value.null :: st) := by
  obtain ⟨D0, b0, p, l0, e, R0, s, m, args, below, meth, c, nL0, Q⟩ := X
  obtain ⟨rfl, rfl, rfl, rfl, rfl, hx, hb, hml, hown, hts, hK, hbs⟩ := C
  subst hp
  intro H locs ls hP hS hl
  exact lv_astore_nN (lv' := L') hx hb hdg hi hl hn hL (fun ls hl => kk H locs ls hP hS hl)
theorem g_astoreN (C : qC X D b l R cc own nL) {i : Nat}  (L' : List (Nat × Value)) (hdg : decode cc pc = .ok (.astore i, 2)) (hn : i < nL) (hL : (i, Value.null) :: L.filter (fun q => !(q.1 == i) && !(q.1 + 1 == i && q.2.category == 2)) = L') (hp : pc + 2 = pc') (kk : qG X k n z h pc' L' st) : qG X k n z h pc L (Value.null :: st) := by
  obtain ⟨D0, b0, p, l0, e, R0, s, m, args, below, meth, c, nL0, Q⟩ := X
  obtain ⟨rfl, rfl, rfl, rfl, rfl, hx, hb, hml, hown, hts, hK, hbs⟩ := C
  subst hp
  intro H locs ls hP hS hl
  exact lv_astoreN (lv' := L') hx hb hdg hl hn hL (fun ls hl => kk H locs ls hP hS hl)
theorem g_iinc (C : qC X D b l R cc own nL) {i : Nat} {d : Int} {x v : Int32} (q : Nat) (L' : List (Nat × Value)) (hdg : decode cc pc = .ok (.iinc i d, 3)) (hq : L[q]? = some (i, .int x)) (hv : x + Int32.ofInt d = v) (hn : i < nL) (hL : (i, Value.int v) :: L.filter (fun q => !(q.1 == i) && !(q.1 + 1 == i && q.2.category == 2)) = L') (hp : pc + 3 = pc') (kk : qG X k n z h pc' L' st) : qG X k n z h pc L st := by
  obtain ⟨D0, b0, p, l0, e, R0, s, m, args, below, meth, c, nL0, Q⟩ := X
  obtain ⟨rfl, rfl, rfl, rfl, rfl, hx, hb, hml, hown, hts, hK, hbs⟩ := C
  subst hp
  intro H locs ls hP hS hl
  exact lv_iinc (v := v) (lv' := L') hx hb hdg hl hq hv hn hL (fun ls hl => kk H locs ls hP hS hl)
theorem g_iadd (C : qC X D b l R cc own nL) {x y : Int32} (hdg : decode cc pc = .ok (.iadd, 1)) (hp : pc + 1 = pc') (kk : qG X k n z h pc' L (.int (x + y) :: st)) : qG X k n z h pc L (.int y :: .int x :: st) := by
  obtain ⟨D0, b0, p, l0, e, R0, s, m, args, below, meth, c, nL0, Q⟩ := X
  obtain ⟨rfl, rfl, rfl, rfl, rfl, hx, hb, hml, hown, hts, hK, hbs⟩ := C
  subst hp
  intro H locs ls hP hS hl
  exact lv_iadd hx hb hdg (kk H locs ls hP hS hl)
theorem g_isub (C : qC X D b l R cc own nL) {x y : Int32} (hdg : decode cc pc = .ok (.isub, 1)) (hp : pc + 1 = pc') (kk : qG X k n z h pc' L (.int (x - y) :: st)) : qG X k n z h pc L (.int y :: .int x :: st) := by
  obtain ⟨D0, b0, p, l0, e, R0, s, m, args, below, meth, c, nL0, Q⟩ := X
  obtain ⟨rfl, rfl, rfl, rfl, rfl, hx, hb, hml, hown, hts, hK, hbs⟩ := C
  subst hp
  intro H locs ls hP hS hl
  exact lv_isub hx hb hdg (kk H locs ls hP hS hl)
theorem g_imul (C : qC X D b l R cc own nL) {x y : Int32} (hdg : decode cc pc = .ok (.imul, 1)) (hp : pc + 1 = pc') (kk : qG X k n z h pc' L (.int (x * y) :: st)) : qG X k n z h pc L (.int y :: .int x :: st) := by
  obtain ⟨D0, b0, p, l0, e, R0, s, m, args, below, meth, c, nL0, Q⟩ := X
  obtain ⟨rfl, rfl, rfl, rfl, rfl, hx, hb, hml, hown, hts, hK, hbs⟩ := C
  subst hp
  intro H locs ls hP hS hl
  exact lv_imul hx hb hdg (kk H locs ls hP hS hl)
theorem g_iand (C : qC X D b l R cc own nL) {x y : Int32} (hdg : decode cc pc = .ok (.iand, 1)) (hp : pc + 1 = pc') (kk : qG X k n z h pc' L (.int (x &&& y) :: st)) : qG X k n z h pc L (.int y :: .int x :: st) := by
  obtain ⟨D0, b0, p, l0, e, R0, s, m, args, below, meth, c, nL0, Q⟩ := X
  obtain ⟨rfl, rfl, rfl, rfl, rfl, hx, hb, hml, hown, hts, hK, hbs⟩ := C
  subst hp
  intro H locs ls hP hS hl
  exact lv_iand hx hb hdg (kk H locs ls hP hS hl)
theorem g_idiv (C : qC X D b l R cc own nL) {x y : Int32} (hdg : decode cc pc = .ok (.idiv, 1)) (hne : ¬ y = 0) (hp : pc + 1 = pc') (kk : qG X k n z h pc' L (.int (x / y) :: st)) : qG X k n z h pc L (.int y :: .int x :: st) := by
  obtain ⟨D0, b0, p, l0, e, R0, s, m, args, below, meth, c, nL0, Q⟩ := X
  obtain ⟨rfl, rfl, rfl, rfl, rfl, hx, hb, hml, hown, hts, hK, hbs⟩ := C
  subst hp
  intro H locs ls hP hS hl
  exact lv_idiv hx hb hdg hne (kk H locs ls hP hS hl)
theorem g_irem (C : qC X D b l R cc own nL) {x y : Int32} (hdg : decode cc pc = .ok (.irem, 1)) (hne : ¬ y = 0) (hp : pc + 1 = pc') (kk : qG X k n z h pc' L (.int (x - x / y * y) :: st)) : qG X k n z h pc L (.int y :: .int x :: st) := by
  obtain ⟨D0, b0, p, l0, e, R0, s, m, args, below, meth, c, nL0, Q⟩ := X
  obtain ⟨rfl, rfl, rfl, rfl, rfl, hx, hb, hml, hown, hts, hK, hbs⟩ := C
  subst hp
  intro H locs ls hP hS hl
  exact lv_irem hx hb hdg hne (kk H locs ls hP hS hl)
theorem g_ladd (C : qC X D b l R cc own nL) {x y : Int64} (hdg : decode cc pc = .ok (.ladd, 1)) (hp : pc + 1 = pc') (kk : qG X k n z h pc' L (.long (x + y) :: st)) : qG X k n z h pc L (.long y :: .long x :: st) := by
  obtain ⟨D0, b0, p, l0, e, R0, s, m, args, below, meth, c, nL0, Q⟩ := X
  obtain ⟨rfl, rfl, rfl, rfl, rfl, hx, hb, hml, hown, hts, hK, hbs⟩ := C
  subst hp
  intro H locs ls hP hS hl
  exact lv_ladd hx hb hdg (kk H locs ls hP hS hl)
theorem g_lsub (C : qC X D b l R cc own nL) {x y : Int64} (hdg : decode cc pc = .ok (.lsub, 1)) (hp : pc + 1 = pc') (kk : qG X k n z h pc' L (.long (x - y) :: st)) : qG X k n z h pc L (.long y :: .long x :: st) := by
  obtain ⟨D0, b0, p, l0, e, R0, s, m, args, below, meth, c, nL0, Q⟩ := X
  obtain ⟨rfl, rfl, rfl, rfl, rfl, hx, hb, hml, hown, hts, hK, hbs⟩ := C
  subst hp
  intro H locs ls hP hS hl
  exact lv_lsub hx hb hdg (kk H locs ls hP hS hl)
theorem g_lmul (C : qC X D b l R cc own nL) {x y : Int64} (hdg : decode cc pc = .ok (.lmul, 1)) (hp : pc + 1 = pc') (kk : qG X k n z h pc' L (.long (x * y) :: st)) : qG X k n z h pc L (.long y :: .long x :: st) := by
  obtain ⟨D0, b0, p, l0, e, R0, s, m, args, below, meth, c, nL0, Q⟩ := X
  obtain ⟨rfl, rfl, rfl, rfl, rfl, hx, hb, hml, hown, hts, hK, hbs⟩ := C
  subst hp
  intro H locs ls hP hS hl
  exact lv_lmul hx hb hdg (kk H locs ls hP hS hl)
theorem g_land (C : qC X D b l R cc own nL) {x y : Int64} (hdg : decode cc pc = .ok (.land, 1)) (hp : pc + 1 = pc') (kk : qG X k n z h pc' L (.long (x &&& y) :: st)) : qG X k n z h pc L (.long y :: .long x :: st) := by
  obtain ⟨D0, b0, p, l0, e, R0, s, m, args, below, meth, c, nL0, Q⟩ := X
  obtain ⟨rfl, rfl, rfl, rfl, rfl, hx, hb, hml, hown, hts, hK, hbs⟩ := C
  subst hp
  intro H locs ls hP hS hl
  exact lv_land hx hb hdg (kk H locs ls hP hS hl)
theorem g_ldiv (C : qC X D b l R cc own nL) {x y : Int64} (hdg : decode cc pc = .ok (.ldiv, 1)) (hne : ¬ y = 0) (hp : pc + 1 = pc') (kk : qG X k n z h pc' L (.long (x / y) :: st)) : qG X k n z h pc L (.long y :: .long x :: st) := by
  obtain ⟨D0, b0, p, l0, e, R0, s, m, args, below, meth, c, nL0, Q⟩ := X
  obtain ⟨rfl, rfl, rfl, rfl, rfl, hx, hb, hml, hown, hts, hK, hbs⟩ := C
  subst hp
  intro H locs ls hP hS hl
  exact lv_ldiv hx hb hdg hne (kk H locs ls hP hS hl)
theorem g_lrem (C : qC X D b l R cc own nL) {x y : Int64} (hdg : decode cc pc = .ok (.lrem, 1)) (hne : ¬ y = 0) (hp : pc + 1 = pc') (kk : qG X k n z h pc' L (.long (x - x / y * y) :: st)) : qG X k n z h pc L (.long y :: .long x :: st) := by
  obtain ⟨D0, b0, p, l0, e, R0, s, m, args, below, meth, c, nL0, Q⟩ := X
  obtain ⟨rfl, rfl, rfl, rfl, rfl, hx, hb, hml, hown, hts, hK, hbs⟩ := C
  subst hp
  intro H locs ls hP hS hl
  exact lv_lrem hx hb hdg hne (kk H locs ls hP hS hl)
theorem g_lcmp (C : qC X D b l R cc own nL) {x y : Int64} (hdg : decode cc pc = .ok (.lcmp, 1)) (hp : pc + 1 = pc') (kk : qG X k n z h pc' L (.int (lg_cmp x y) :: st)) : qG X k n z h pc L (.long y :: .long x :: st) := by
  obtain ⟨D0, b0, p, l0, e, R0, s, m, args, below, meth, c, nL0, Q⟩ := X
  obtain ⟨rfl, rfl, rfl, rfl, rfl, hx, hb, hml, hown, hts, hK, hbs⟩ := C
  subst hp
  intro H locs ls hP hS hl
  exact W.lcmp hx hb hdg (kk H locs ls hP hS hl)
theorem g_i2l (C : qC X D b l R cc own nL) {x : Int32} (hdg : decode cc pc = .ok (.i2l, 1)) (hp : pc + 1 = pc') (kk : qG X k n z h pc' L (.long x.toInt64 :: st)) : qG X k n z h pc L (.int x :: st) := by
  obtain ⟨D0, b0, p, l0, e, R0, s, m, args, below, meth, c, nL0, Q⟩ := X
  obtain ⟨rfl, rfl, rfl, rfl, rfl, hx, hb, hml, hown, hts, hK, hbs⟩ := C
  subst hp
  intro H locs ls hP hS hl
  exact lv_i2l hx hb hdg rfl (kk H locs ls hP hS hl)
theorem g_l2i (C : qC X D b l R cc own nL) {x : Int64} (hdg : decode cc pc = .ok (.l2i, 1)) (hp : pc + 1 = pc') (kk : qG X k n z h pc' L (.int x.toInt32 :: st)) : qG X k n z h pc L (.long x :: st) := by
  obtain ⟨D0, b0, p, l0, e, R0, s, m, args, below, meth, c, nL0, Q⟩ := X
  obtain ⟨rfl, rfl, rfl, rfl, rfl, hx, hb, hml, hown, hts, hK, hbs⟩ := C
  subst hp
  intro H locs ls hP hS hl
  exact lv_l2i hx hb hdg rfl (kk H locs ls hP hS hl)
theorem g_i2b (C : qC X D b l R cc own nL) {x : Int32} (hdg : decode cc pc = .ok (.i2b, 1)) (hp : pc + 1 = pc') (kk : qG X k n z h pc' L (.int x.toInt8.toInt32 :: st)) : qG X k n z h pc L (.int x :: st) := by
  obtain ⟨D0, b0, p, l0, e, R0, s, m, args, below, meth, c, nL0, Q⟩ := X
  obtain ⟨rfl, rfl, rfl, rfl, rfl, hx, hb, hml, hown, hts, hK, hbs⟩ := C
  subst hp
  intro H locs ls hP hS hl
  exact lv_i2b hx hb hdg rfl (kk H locs ls hP hS hl)
theorem g_dup (C : qC X D b l R cc own nL) {v : Value} (hv : v.category = 1) (hdg : decode cc pc = .ok (.dup, 1)) (hp : pc + 1 = pc') (kk : qG X k n z h pc' L (v :: v :: st)) : qG X k n z h pc L (v :: st) := by
  obtain ⟨D0, b0, p, l0, e, R0, s, m, args, below, meth, c, nL0, Q⟩ := X
  obtain ⟨rfl, rfl, rfl, rfl, rfl, hx, hb, hml, hown, hts, hK, hbs⟩ := C
  subst hp
  intro H locs ls hP hS hl
  exact lv_dup hx hb hdg hv (kk H locs ls hP hS hl)
theorem g_dup2 (C : qC X D b l R cc own nL) {v w : Value} (hv : v.category = 1) (hw : w.category = 1) (hdg : decode cc pc = .ok (.dup2, 1)) (hp : pc + 1 = pc') (kk : qG X k n z h pc' L (v :: w :: v :: w :: st)) : qG X k n z h pc L (v :: w :: st) := by
  obtain ⟨D0, b0, p, l0, e, R0, s, m, args, below, meth, c, nL0, Q⟩ := X
  obtain ⟨rfl, rfl, rfl, rfl, rfl, hx, hb, hml, hown, hts, hK, hbs⟩ := C
  subst hp
  intro H locs ls hP hS hl
  exact lv_dup2_11 hx hb hdg hv hw (kk H locs ls hP hS hl)
theorem g_pop (C : qC X D b l R cc own nL) {v : Value} (hv : v.category = 1) (hdg : decode cc pc = .ok (.pop, 1)) (hp : pc + 1 = pc') (kk : qG X k n z h pc' L (st)) : qG X k n z h pc L (v :: st) := by
  obtain ⟨D0, b0, p, l0, e, R0, s, m, args, below, meth, c, nL0, Q⟩ := X
  obtain ⟨rfl, rfl, rfl, rfl, rfl, hx, hb, hml, hown, hts, hK, hbs⟩ := C
  subst hp
  intro H locs ls hP hS hl
  exact lv_pop hx hb hdg hv (kk H locs ls hP hS hl)
theorem g_if_eq (C : qC X D b l R cc own nL) {x : Int32} {off : Int} {tgt : Nat} (hdg : decode cc pc = .ok (.ifCond .eq off, 3)) (ht : (pc : Int) + off = (tgt : Int)) (hp : pc + 3 = pc') (kt : x = 0 → qG X k n z h tgt L st) (kf : ¬ x = 0 → qG X k n z h pc' L st) : qG X k n z h pc L (.int x :: st) := by
  obtain ⟨D0, b0, p, l0, e, R0, s, m, args, below, meth, c, nL0, Q⟩ := X
  obtain ⟨rfl, rfl, rfl, rfl, rfl, hx, hb, hml, hown, hts, hK, hbs⟩ := C
  subst hp
  intro H locs ls hP hS hl
  exact lv_if_eq hx hb hdg ht (fun c => kt c H locs ls hP hS hl) (fun c => kf c H locs ls hP hS hl)
theorem g_if_ne (C : qC X D b l R cc own nL) {x : Int32} {off : Int} {tgt : Nat} (hdg : decode cc pc = .ok (.ifCond .ne off, 3)) (ht : (pc : Int) + off = (tgt : Int)) (hp : pc + 3 = pc') (kt : ¬ x = 0 → qG X k n z h tgt L st) (kf : x = 0 → qG X k n z h pc' L st) : qG X k n z h pc L (.int x :: st) := by
  obtain ⟨D0, b0, p, l0, e, R0, s, m, args, below, meth, c, nL0, Q⟩ := X
  obtain ⟨rfl, rfl, rfl, rfl, rfl, hx, hb, hml, hown, hts, hK, hbs⟩ := C
  subst hp
  intro H locs ls hP hS hl
  exact lv_if_ne hx hb hdg ht (fun c => kt c H locs ls hP hS hl) (fun c => kf c H locs ls hP hS hl)
theorem g_if_lt (C : qC X D b l R cc own nL) {x : Int32} {off : Int} {tgt : Nat} (hdg : decode cc pc = .ok (.ifCond .lt off, 3)) (ht : (pc : Int) + off = (tgt : Int)) (hp : pc + 3 = pc') (kt : x < 0 → qG X k n z h tgt L st) (kf : ¬ x < 0 → qG X k n z h pc' L st) : qG X k n z h pc L (.int x :: st) := by
  obtain ⟨D0, b0, p, l0, e, R0, s, m, args, below, meth, c, nL0, Q⟩ := X
  obtain ⟨rfl, rfl, rfl, rfl, rfl, hx, hb, hml, hown, hts, hK, hbs⟩ := C
  subst hp
  intro H locs ls hP hS hl
  exact lv_if_lt hx hb hdg ht (fun c => kt c H locs ls hP hS hl) (fun c => kf c H locs ls hP hS hl)
theorem g_if_ge (C : qC X D b l R cc own nL) {x : Int32} {off : Int} {tgt : Nat} (hdg : decode cc pc = .ok (.ifCond .ge off, 3)) (ht : (pc : Int) + off = (tgt : Int)) (hp : pc + 3 = pc') (kt : 0 ≤ x → qG X k n z h tgt L st) (kf : ¬ 0 ≤ x → qG X k n z h pc' L st) : qG X k n z h pc L (.int x :: st) := by
  obtain ⟨D0, b0, p, l0, e, R0, s, m, args, below, meth, c, nL0, Q⟩ := X
  obtain ⟨rfl, rfl, rfl, rfl, rfl, hx, hb, hml, hown, hts, hK, hbs⟩ := C
  subst hp
  intro H locs ls hP hS hl
  exact lv_if_ge hx hb hdg ht (fun c => kt c H locs ls hP hS hl) (fun c => kf c H locs ls hP hS hl)
theorem g_if_gt (C : qC X D b l R cc own nL) {x : Int32} {off : Int} {tgt : Nat} (hdg : decode cc pc = .ok (.ifCond .gt off, 3)) (ht : (pc : Int) + off = (tgt : Int)) (hp : pc + 3 = pc') (kt : 0 < x → qG X k n z h tgt L st) (kf : ¬ 0 < x → qG X k n z h pc' L st) : qG X k n z h pc L (.int x :: st) := by
  obtain ⟨D0, b0, p, l0, e, R0, s, m, args, below, meth, c, nL0, Q⟩ := X
  obtain ⟨rfl, rfl, rfl, rfl, rfl, hx, hb, hml, hown, hts, hK, hbs⟩ := C
  subst hp
  intro H locs ls hP hS hl
  exact lv_if_gt hx hb hdg ht (fun c => kt c H locs ls hP hS hl) (fun c => kf c H locs ls hP hS hl)
theorem g_if_le (C : qC X D b l R cc own nL) {x : Int32} {off : Int} {tgt : Nat} (hdg : decode cc pc = .ok (.ifCond .le off, 3)) (ht : (pc : Int) + off = (tgt : Int)) (hp : pc + 3 = pc') (kt : x ≤ 0 → qG X k n z h tgt L st) (kf : ¬ x ≤ 0 → qG X k n z h pc' L st) : qG X k n z h pc L (.int x :: st) := by
  obtain ⟨D0, b0, p, l0, e, R0, s, m, args, below, meth, c, nL0, Q⟩ := X
  obtain ⟨rfl, rfl, rfl, rfl, rfl, hx, hb, hml, hown, hts, hK, hbs⟩ := C
  subst hp
  intro H locs ls hP hS hl
  exact lv_if_le hx hb hdg ht (fun c => kt c H locs ls hP hS hl) (fun c => kf c H locs ls hP hS hl)
theorem g_icmp_eq (C : qC X D b l R cc own nL) {x y : Int32} {off : Int} {tgt : Nat} (hdg : decode cc pc = .ok (.if_icmp .eq off, 3)) (ht : (pc : Int) + off = (tgt : Int)) (hp : pc + 3 = pc') (kt : x = y → qG X k n z h tgt L st) (kf : ¬ x = y → qG X k n z h pc' L st) : qG X k n z h pc L (.int y :: .int x :: st) := by
  obtain ⟨D0, b0, p, l0, e, R0, s, m, args, below, meth, c, nL0, Q⟩ := X
  obtain ⟨rfl, rfl, rfl, rfl, rfl, hx, hb, hml, hown, hts, hK, hbs⟩ := C
  subst hp
  intro H locs ls hP hS hl
  exact lv_icmp_eq hx hb hdg ht (fun c => kt c H locs ls hP hS hl) (fun c => kf c H locs ls hP hS hl)
theorem g_icmp_ne (C : qC X D b l R cc own nL) {x y : Int32} {off : Int} {tgt : Nat} (hdg : decode cc pc = .ok (.if_icmp .ne off, 3)) (ht : (pc : Int) + off = (tgt : Int)) (hp : pc + 3 = pc') (kt : ¬ x = y → qG X k n z h tgt L st) (kf : x = y → qG X k n z h pc' L st) : qG X k n z h pc L (.int y :: .int x :: st) := by
  obtain ⟨D0, b0, p, l0, e, R0, s, m, args, below, meth, c, nL0, Q⟩ := X
  obtain ⟨rfl, rfl, rfl, rfl, rfl, hx, hb, hml, hown, hts, hK, hbs⟩ := C
  subst hp
  intro H locs ls hP hS hl
  exact lv_icmp_ne hx hb hdg ht (fun c => kt c H locs ls hP hS hl) (fun c => kf c H locs ls hP hS hl)
theorem g_icmp_lt (C : qC X D b l R cc own nL) {x y : Int32} {off : Int} {tgt : Nat} (hdg : decode cc pc = .ok (.if_icmp .lt off, 3)) (ht : (pc : Int) + off = (tgt : Int)) (hp : pc + 3 = pc') (kt : x < y → qG X k n z h tgt L st) (kf : ¬ x < y → qG X k n z h pc' L st) : qG X k n z h pc L (.int y :: .int x :: st) := by
  obtain ⟨D0, b0, p, l0, e, R0, s, m, args, below, meth, c, nL0, Q⟩ := X
  obtain ⟨rfl, rfl, rfl, rfl, rfl, hx, hb, hml, hown, hts, hK, hbs⟩ := C
  subst hp
  intro H locs ls hP hS hl
  exact lv_icmp_lt hx hb hdg ht (fun c => kt c H locs ls hP hS hl) (fun c => kf c H locs ls hP hS hl)
theorem g_icmp_ge (C : qC X D b l R cc own nL) {x y : Int32} {off : Int} {tgt : Nat} (hdg : decode cc pc = .ok (.if_icmp .ge off, 3)) (ht : (pc : Int) + off = (tgt : Int)) (hp : pc + 3 = pc') (kt : y ≤ x → qG X k n z h tgt L st) (kf : ¬ y ≤ x → qG X k n z h pc' L st) : qG X k n z h pc L (.int y :: .int x :: st) := by
  obtain ⟨D0, b0, p, l0, e, R0, s, m, args, below, meth, c, nL0, Q⟩ := X
  obtain ⟨rfl, rfl, rfl, rfl, rfl, hx, hb, hml, hown, hts, hK, hbs⟩ := C
  subst hp
  intro H locs ls hP hS hl
  exact lv_icmp_ge hx hb hdg ht (fun c => kt c H locs ls hP hS hl) (fun c => kf c H locs ls hP hS hl)
theorem g_icmp_gt (C : qC X D b l R cc own nL) {x y : Int32} {off : Int} {tgt : Nat} (hdg : decode cc pc = .ok (.if_icmp .gt off, 3)) (ht : (pc : Int) + off = (tgt : Int)) (hp : pc + 3 = pc') (kt : y < x → qG X k n z h tgt L st) (kf : ¬ y < x → qG X k n z h pc' L st) : qG X k n z h pc L (.int y :: .int x :: st) := by
  obtain ⟨D0, b0, p, l0, e, R0, s, m, args, below, meth, c, nL0, Q⟩ := X
  obtain ⟨rfl, rfl, rfl, rfl, rfl, hx, hb, hml, hown, hts, hK, hbs⟩ := C
  subst hp
  intro H locs ls hP hS hl
  exact lv_icmp_gt hx hb hdg ht (fun c => kt c H locs ls hP hS hl) (fun c => kf c H locs ls hP hS hl)
theorem g_icmp_le (C : qC X D b l R cc own nL) {x y : Int32} {off : Int} {tgt : Nat} (hdg : decode cc pc = .ok (.if_icmp .le off, 3)) (ht : (pc : Int) + off = (tgt : Int)) (hp : pc + 3 = pc') (kt : x ≤ y → qG X k n z h tgt L st) (kf : ¬ x ≤ y → qG X k n z h pc' L st) : qG X k n z h pc L (.int y :: .int x :: st) := by
  obtain ⟨D0, b0, p, l0, e, R0, s, m, args, below, meth, c, nL0, Q⟩ := X
  obtain ⟨rfl, rfl, rfl, rfl, rfl, hx, hb, hml, hown, hts, hK, hbs⟩ := C
  subst hp
  intro H locs ls hP hS hl
  exact lv_icmp_le hx hb hdg ht (fun c => kt c H locs ls hP hS hl) (fun c => kf c H locs ls hP hS hl)
theorem g_goto (C : qC X D b l R cc own nL) {off : Int} {tgt : Nat} (hdg : decode cc pc = .ok (.goto off, 3)) (ht : (pc : Int) + off = (tgt : Int)) (kk : qG X k n z h tgt L st) : qG X k n z h pc L st := by
  obtain ⟨D0, b0, p, l0, e, R0, s, m, args, below, meth, c, nL0, Q⟩ := X
  obtain ⟨rfl, rfl, rfl, rfl, rfl, hx, hb, hml, hown, hts, hK, hbs⟩ := C
  intro H locs ls hP hS hl
  exact lv_goto hx hb hdg ht (kk H locs ls hP hS hl)
theorem g_ifnonnull (C : qC X D b l R cc own nL) {x : Nat} {off : Int} {tgt : Nat} (hdg : decode cc pc = .ok (.ifnonnull off, 3)) (ht : (pc : Int) + off = (tgt : Int)) (kk : qG X k n z h tgt L st) : qG X k n z h pc L (.ref x :: st) := by
  obtain ⟨D0, b0, p, l0, e, R0, s, m, args, below, meth, c, nL0, Q⟩ := X
  obtain ⟨rfl, rfl, rfl, rfl, rfl, hx, hb, hml, hown, hts, hK, hbs⟩ := C
  intro H locs ls hP hS hl
  exact lv_ifnonnull hx hb hdg ht (kk H locs ls hP hS hl)
theorem g_ifnonnullN (C : qC X D b l R cc own nL) {off : Int} (hdg : decode cc pc = .ok (.ifnonnull off, 3)) (hp : pc + 3 = pc') (kk : qG X k n z h pc' L st) : qG X k n z h pc L (.null :: st) := by
  obtain ⟨D0, b0, p, l0, e, R0, s, m, args, below, meth, c, nL0, Q⟩ := X
  obtain ⟨rfl, rfl, rfl, rfl, rfl, hx, hb, hml, hown, hts, hK, hbs⟩ := C
  subst hp
  intro H locs ls hP hS hl
  exact lv_ifnonnullN hx hb hdg (kk H locs ls hP hS hl)
theorem g_ifnull (C : qC X D b l R cc own nL) {x : Nat} {off : Int} (hdg : decode cc pc = .ok (.ifnull off, 3)) (hp : pc + 3 = pc') (kk : qG X k n z h pc' L st) : qG X k n z h pc L (.ref x :: st) := by
  obtain ⟨D0, b0, p, l0, e, R0, s, m, args, below, meth, c, nL0, Q⟩ := X
  obtain ⟨rfl, rfl, rfl, rfl, rfl, hx, hb, hml, hown, hts, hK, hbs⟩ := C
  subst hp
  intro H locs ls hP hS hl
  exact lv_ifnull hx hb hdg (kk H locs ls hP hS hl)
theorem g_ifnullN (C : qC X D b l R cc own nL) {off : Int} {tgt : Nat} (hdg : decode cc pc = .ok (.ifnull off, 3)) (ht : (pc : Int) + off = (tgt : Int)) (kk : qG X k n z h tgt L st) : qG X k n z h pc L (.null :: st) := by
  obtain ⟨D0, b0, p, l0, e, R0, s, m, args, below, meth, c, nL0, Q⟩ := X
  obtain ⟨rfl, rfl, rfl, rfl, rfl, hx, hb, hml, hown, hts, hK, hbs⟩ := C
  intro H locs ls hP hS hl
  exact lv_ifnullN hx hb hdg ht (kk H locs ls hP hS hl)
theorem g_tableIn (C : qC X D b l R cc own nL) {dflt lo hi : Int} {offs : Array Int} {len : Nat} {x : Int32} {off : Int} {tgt : Nat} (hdg : decode cc pc = .ok (.tableswitch dflt lo hi offs, len)) (h1 : ¬ x.toInt < lo) (h2 : ¬ hi < x.toInt) (ho : offs[(x.toInt - lo).toNat]? = some off) (ht : (pc : Int) + off = (tgt : Int)) (kk : qG X k n z h tgt L st) : qG X k n z h pc L (.int x :: st) := by
  obtain ⟨D0, b0, p, l0, e, R0, s, m, args, below, meth, c, nL0, Q⟩ := X
  obtain ⟨rfl, rfl, rfl, rfl, rfl, hx, hb, hml, hown, hts, hK, hbs⟩ := C
  intro H locs ls hP hS hl
  exact lv_tableIn hx hb hdg h1 h2 ho ht (kk H locs ls hP hS hl)
theorem g_tableOut (C : qC X D b l R cc own nL) {dflt lo hi : Int} {offs : Array Int} {len : Nat} {x : Int32} {tgt : Nat} (hdg : decode cc pc = .ok (.tableswitch dflt lo hi offs, len)) (hh : x.toInt < lo ∨ hi < x.toInt) (ht : (pc : Int) + dflt = (tgt : Int)) (kk : qG X k n z h tgt L st) : qG X k n z h pc L (.int x :: st) := by
  obtain ⟨D0, b0, p, l0, e, R0, s, m, args, below, meth, c, nL0, Q⟩ := X
  obtain ⟨rfl, rfl, rfl, rfl, rfl, hx, hb, hml, hown, hts, hK, hbs⟩ := C
  intro H locs ls hP hS hl
  exact lv_tableOut hx hb hdg hh ht (kk H locs ls hP hS hl)
theorem g_get (C : qC X D b l R cc own nL) {ref Cn : String} {T : u_T} {N ci index : Nat} {a : Nat} {fs : List Value} (hin : ∀ w ∈ u_ws Cn T N, w ∈ AW) (hc : vwCl[ci]? = some (Cn, T, N)) (j : Nat) (hj : j < N) (hw : Cond.fieldLink own index ref (T j).2.1 (T j).2.2.1 ∈ AW) (hsame : ∀ (s : State) (args : Array Value), (∀ w ∈ AW, w.before args s = true) → ∀ x, s.fieldFound? (T j).1 (T j).2.1 (T j).2.2.1 = some x → s.fieldFound? ref (T j).2.1 (T j).2.2.1 = some x) (he : h a = some (.inr (ci, fs))) {v : Value} (hv : fs[j]? = some v) (hdg : decode cc pc = .ok (.getfield index, 3)) (hp : pc + 3 = pc') (kk : qG X k n z h pc' L (v :: st)) : qG X k n z h pc L (.ref a :: st) := by
  obtain ⟨D0, b0, p, l0, e, R0, s, m, args, below, meth, c, nL0, Q⟩ := X
  obtain ⟨rfl, rfl, rfl, rfl, rfl, hx, hb, hml, hown, hts, hK, hbs⟩ := C
  subst hp
  intro H locs ls hP hS hl
  exact va_get hx hb hts hin hown hK.1 (hP.one he) 0 rfl hc j hj (hts _ hw) (hsame _ _ hts) hv hdg (kk H locs ls hP hS hl)
theorem g_getN (C : qC X D b l R cc own nL) {ref Cn : String} {T : u_T} {N ci index : Nat} {a : Nat} {fs : List Value} {host : String} (hin : ∀ w ∈ u_ws Cn T N, w ∈ AW) (hc : vwCl[ci]? = some (Cn, T, N)) (j : Nat) (hj : j < N) (hw : (own, index, ref, (T j).2.1, (T j).2.2.1, host) ∈ qNF) (hsame : ∀ (s : State) (args : Array Value), (∀ w ∈ AW, w.before args s = true) → ∀ x, s.fieldFound? (T j).1 (T j).2.1 (T j).2.2.1 = some x → s.fieldFound? ref (T j).2.1 (T j).2.2.1 = some x) (he : h a = some (.inr (ci, fs))) {v : Value} (hv : fs[j]? = some v) (hdg : decode cc pc = .ok (.getfield index, 3)) (hp : pc + 3 = pc') (kk : qG X k n z h pc' L (v :: st)) : qG X k n z h pc L (.ref a :: st) := by
  obtain ⟨D0, b0, p, l0, e, R0, s, m, args, below, meth, c, nL0, Q⟩ := X
  obtain ⟨rfl, rfl, rfl, rfl, rfl, hx, hb, hml, hown, hts, hK, hbs⟩ := C
  subst hp
  intro H locs ls hP hS hl
  exact va_getN hx hb hts hin hown hK.1 (hP.one he) 0 rfl hc j hj (va_Nw.use rfl (hK.2.1 _ hw)) (hsame _ _ hts) hv hdg (kk H locs ls hP hS hl)
theorem g_put (C : qC X D b l R cc own nL) {ref Cn : String} {T : u_T} {N ci index : Nat} {a : Nat} {fs : List Value} (hin : ∀ w ∈ u_ws Cn T N, w ∈ AW) (ty0 : Nat → FieldType) (hty : ∀ k, k < N → parseFieldDescriptor (T k).2.2.1 = some (ty0 k)) (hnm : ∀ a, a < N → ∀ b, b < N → a ≠ b → (T a).2.1 ≠ (T b).2.1) (hc : vwCl[ci]? = some (Cn, T, N)) (j : Nat) (hj : j < N) (hw : Cond.fieldLink own index ref (T j).2.1 (T j).2.2.1 ∈ AW) (hsame : ∀ (s : State) (args : Array Value), (∀ w ∈ AW, w.before args s = true) → ∀ x, s.fieldFound? (T j).1 (T j).2.1 (T j).2.2.1 = some x → s.fieldFound? ref (T j).2.1 (T j).2.2.1 = some x) (hfin : (T j).2.2.2 = false) {ty : FieldType} {v : Value} (hd : parseFieldDescriptor (T j).2.2.1 = some ty) (he : h a = some (.inr (ci, fs))) (hn : narrow ty v = v) (hfit : fits ty v = true) (hlen : j < fs.length) (hdg : decode cc pc = .ok (.putfield index, 3)) (hp : pc + 3 = pc') (kk : ∀ h1 : qH, h1 a = some (.inr (ci, fs.set j v)) → (∀ q, q ≠ a → h1 q = h q) → qG X k n z h1 pc' L st) : qG X k n z h pc L (v :: .ref a :: st) := by
  obtain ⟨D0, b0, p, l0, e, R0, s, m, args, below, meth, c, nL0, Q⟩ := X
  obtain ⟨rfl, rfl, rfl, rfl, rfl, hx, hb, hml, hown, hts, hK, hbs⟩ := C
  subst hp
  intro H locs ls hP hS hl
  have hPo := hP.one he
  have hDo := hP.oneD he
  have hap := va_apart (own := own) hts hin ty0 hty hnm hK.1 hc
  obtain ⟨r, h1, cell, q1, q2, q3, q4⟩ := hPo 0 _ rfl
  have hr : r = (Cn, T, N) := Option.some.inj (h1.symm.trans hc)
  subst hr
  obtain ⟨hSS, hfc, kC, hkC, hkind⟩ := hK.1.1 ci _ hc
  obtain ⟨cf, kf, fi, f, hi, hsl⟩ := hSS j hj
  have hlay := hts _ (hin _ (u_in_lay hj))
  unfold u_lay at hlay
  rw [if_neg (by rw [hfin]; decide)] at hlay
  have hst := (u_facts hfc hkC (u_lays hts hin hj) hi).1
  have h6 := u_store hfc hkC hkind hlay hi hd hn hfit
  refine W.putK hx hb (f := f) ⟨hown, hts _ hw, ⟨_, _, _, hsame _ _ hts _ hi⟩, hst⟩ (by rw [q2]; exact h6) q1 q3 (by rw [hsl]; exact k2_hasslot (q4 j hj)) rfl rfl hdg fun H' e1 e2 e3 => ?_
  rw [hsl] at e1 ⊢
  exact kk _ q_at (fun q hq => q_ne hq) H' _ ls (hP.set he ⟨_, hc, t_OB.to (V := updV (vp_V fs) j v) ⟨_, e1, q2, q3, t_set q4 hap hj v⟩ (fun i _ => vp_updV_set hlen v i)⟩ e2 e3) (hS.put e2 e3 (hDo.2 0 _ rfl)) hl
theorem g_putN (C : qC X D b l R cc own nL) {ref Cn : String} {T : u_T} {N ci index : Nat} {a : Nat} {fs : List Value} {host : String} (hin : ∀ w ∈ u_ws Cn T N, w ∈ AW) (ty0 : Nat → FieldType) (hty : ∀ k, k < N → parseFieldDescriptor (T k).2.2.1 = some (ty0 k)) (hnm : ∀ a, a < N → ∀ b, b < N → a ≠ b → (T a).2.1 ≠ (T b).2.1) (hc : vwCl[ci]? = some (Cn, T, N)) (j : Nat) (hj : j < N) (hw : (own, index, ref, (T j).2.1, (T j).2.2.1, host) ∈ qNF) (hsame : ∀ (s : State) (args : Array Value), (∀ w ∈ AW, w.before args s = true) → ∀ x, s.fieldFound? (T j).1 (T j).2.1 (T j).2.2.1 = some x → s.fieldFound? ref (T j).2.1 (T j).2.2.1 = some x) (hfin : (T j).2.2.2 = false) {ty : FieldType} {v : Value} (hd : parseFieldDescriptor (T j).2.2.1 = some ty) (he : h a = some (.inr (ci, fs))) (hn : narrow ty v = v) (hfit : fits ty v = true) (hlen : j < fs.length) (hdg : decode cc pc = .ok (.putfield index, 3)) (hp : pc + 3 = pc') (kk : ∀ h1 : qH, h1 a = some (.inr (ci, fs.set j v)) → (∀ q, q ≠ a → h1 q = h q) → qG X k n z h1 pc' L st) : qG X k n z h pc L (v :: .ref a :: st) := by
  obtain ⟨D0, b0, p, l0, e, R0, s, m, args, below, meth, c, nL0, Q⟩ := X
  obtain ⟨rfl, rfl, rfl, rfl, rfl, hx, hb, hml, hown, hts, hK, hbs⟩ := C
  subst hp
  intro H locs ls hP hS hl
  have hPo := hP.one he
  have hDo := hP.oneD he
  have hap := va_apart (own := own) hts hin ty0 hty hnm hK.1 hc
  obtain ⟨r, h1, cell, q1, q2, q3, q4⟩ := hPo 0 _ rfl
  have hr : r = (Cn, T, N) := Option.some.inj (h1.symm.trans hc)
  subst hr
  obtain ⟨hSS, hfc, kC, hkC, hkind⟩ := hK.1.1 ci _ hc
  obtain ⟨cf, kf, fi, f, hi, hsl⟩ := hSS j hj
  have hlay := hts _ (hin _ (u_in_lay hj))
  unfold u_lay at hlay
  rw [if_neg (by rw [hfin]; decide)] at hlay
  have hst := (u_facts hfc hkC (u_lays hts hin hj) hi).1
  have h6 := u_store hfc hkC hkind hlay hi hd hn hfit
  refine va_WputK hx hb (f := f) hown (va_Nw.use rfl (hK.2.1 _ hw)) (hsame _ _ hts _ hi) hst (by rw [q2]; exact h6) q1 q3 (by rw [hsl]; exact k2_hasslot (q4 j hj)) rfl rfl hdg fun H' e1 e2 e3 => ?_
  rw [hsl] at e1 ⊢
  exact kk _ q_at (fun q hq => q_ne hq) H' _ ls (hP.set he ⟨_, hc, t_OB.to (V := updV (vp_V fs) j v) ⟨_, e1, q2, q3, t_set q4 hap hj v⟩ (fun i _ => vp_updV_set hlen v i)⟩ e2 e3) (hS.put e2 e3 (hDo.2 0 _ rfl)) hl
theorem g_putF (C : qC X D b l R cc own nL) {ref Cn : String} {T : u_T} {N ci index : Nat} {a : Nat} {fs : List Value} (hin : ∀ w ∈ u_ws Cn T N, w ∈ AW) (ty0 : Nat → FieldType) (hty : ∀ k, k < N → parseFieldDescriptor (T k).2.2.1 = some (ty0 k)) (hnm : ∀ a, a < N → ∀ b, b < N → a ≠ b → (T a).2.1 ≠ (T b).2.1) (hc : vwCl[ci]? = some (Cn, T, N)) (j : Nat) (hj : j < N) (hw : Cond.fieldLink own index ref (T j).2.1 (T j).2.2.1 ∈ AW) (hsame : ∀ (s : State) (args : Array Value), (∀ w ∈ AW, w.before args s = true) → ∀ x, s.fieldFound? (T j).1 (T j).2.1 (T j).2.2.1 = some x → s.fieldFound? ref (T j).2.1 (T j).2.2.1 = some x) (hfin : (T j).2.2.2 = true) (hin2 : X.2.2.2.2.2.2.2.2.2.2.1.name = "<init>") (hdecl : (T j).1 = own) {ty : FieldType} {v : Value} (hd : parseFieldDescriptor (T j).2.2.1 = some ty) (he : h a = some (.inr (ci, fs))) (hn : narrow ty v = v) (hfit : fits ty v = true) (hlen : j < fs.length) (hdg : decode cc pc = .ok (.putfield index, 3)) (hp : pc + 3 = pc') (kk : ∀ h1 : qH, h1 a = some (.inr (ci, fs.set j v)) → (∀ q, q ≠ a → h1 q = h q) → qG X k n z h1 pc' L st) : qG X k n z h pc L (v :: .ref a :: st) := by
  obtain ⟨D0, b0, p, l0, e, R0, s, m, args, below, meth, c, nL0, Q⟩ := X
  obtain ⟨rfl, rfl, rfl, rfl, rfl, hx, hb, hml, hown, hts, hK, hbs⟩ := C
  subst hp
  intro H locs ls hP hS hl
  have hPo := hP.one he
  have hDo := hP.oneD he
  have hap := va_apart (own := own) hts hin ty0 hty hnm hK.1 hc
  obtain ⟨r, h1, cell, q1, q2, q3, q4⟩ := hPo 0 _ rfl
  have hr : r = (Cn, T, N) := Option.some.inj (h1.symm.trans hc)
  subst hr
  obtain ⟨hSS, hfc, kC, hkC, hkind⟩ := hK.1.1 ci _ hc
  obtain ⟨cf, kf, fi, f, hi, hsl⟩ := hSS j hj
  have hlay := hts _ (hin _ (u_in_lay hj))
  unfold u_lay at hlay
  rw [if_pos hfin] at hlay
  have hst := (u_facts hfc hkC (u_lays hts hin hj) hi).1
  have hcf : m.cls = cf := by
    obtain ⟨_, _, c', _, _, _, -, -, hf', -, -, -, hown2, -⟩ := Cond.laysFinal_spec hlay
    have e1 : c' = cf := by have := hi.symm.trans hf'; simp at this; exact this.1.symm
    rw [hdecl] at hown2
    rw [← e1]; exact Option.some.inj (hown.symm.trans hown2)
  have h6 := u_fits hfc hkC hkind (Or.inr hlay) hi hd hn hfit
  refine W.putFinK hx hb hown (hts _ hw) (hsame _ _ hts _ hi) hst hcf hin2 (by rw [q2]; exact h6) q1 q3 (by rw [hsl]; exact k2_hasslot (q4 j hj)) rfl rfl hdg fun H' e1 e2 e3 => ?_
  rw [hsl] at e1 ⊢
  exact kk _ q_at (fun q hq => q_ne hq) H' _ ls (hP.set he ⟨_, hc, t_OB.to (V := updV (vp_V fs) j v) ⟨_, e1, q2, q3, t_set q4 hap hj v⟩ (fun i _ => vp_updV_set hlen v i)⟩ e2 e3) (hS.put e2 e3 (hDo.2 0 _ rfl)) hl
theorem g_iald (C : qC X D b l R cc own nL) {a N : Nat} {f : Nat → Int32} {i : Int32} (he : h a = some (cI D N f)) (hin : vp_in i N) (hdg : decode cc pc = .ok (.iaload, 1)) (hp : pc + 1 = pc') (kk : qG X k n z h pc' L (.int (f i.toNatClampNeg) :: st)) : qG X k n z h pc L (.int i :: .ref a :: st) := by
  obtain ⟨D0, b0, p, l0, e, R0, s, m, args, below, meth, c, nL0, Q⟩ := X
  obtain ⟨rfl, rfl, rfl, rfl, rfl, hx, hb, hml, hown, hts, hK, hbs⟩ := C
  subst hp
  intro H locs ls hP hS hl
  exact va_iald hx hb hK.1 (hP.one he) 0 0 rfl rfl hin hdg (kk H locs ls hP hS hl)
theorem g_bald (C : qC X D b l R cc own nL) {a N : Nat} {f : Nat → Int32} {i : Int32} (he : h a = some (cB D N f)) (hin : vp_in i N) (hdg : decode cc pc = .ok (.baload, 1)) (hp : pc + 1 = pc') (kk : qG X k n z h pc' L (.int (f i.toNatClampNeg) :: st)) : qG X k n z h pc L (.int i :: .ref a :: st) := by
  obtain ⟨D0, b0, p, l0, e, R0, s, m, args, below, meth, c, nL0, Q⟩ := X
  obtain ⟨rfl, rfl, rfl, rfl, rfl, hx, hb, hml, hown, hts, hK, hbs⟩ := C
  subst hp
  intro H locs ls hP hS hl
  exact va_bald hx hb hK.1 (hP.one he) 0 2 rfl rfl hin hdg (kk H locs ls hP hS hl)
theorem g_lald (C : qC X D b l R cc own nL) {a N : Nat} {f : Nat → Int64} {i : Int32} (he : h a = some (cJ D N f)) (hin : vp_in i N) (hdg : decode cc pc = .ok (.laload, 1)) (hp : pc + 1 = pc') (kk : qG X k n z h pc' L (.long (f i.toNatClampNeg) :: st)) : qG X k n z h pc L (.int i :: .ref a :: st) := by
  obtain ⟨D0, b0, p, l0, e, R0, s, m, args, below, meth, c, nL0, Q⟩ := X
  obtain ⟨rfl, rfl, rfl, rfl, rfl, hx, hb, hml, hown, hts, hK, hbs⟩ := C
  subst hp
  intro H locs ls hP hS hl
  exact va_lald hx hb hK.1 (hP.one he) 0 1 rfl rfl hin hdg (kk H locs ls hP hS hl)
theorem g_aald (C : qC X D b l R cc own nL) {a N : Nat} {f : Nat → Option Nat} {i : Int32} (he : h a = some (cQ D N f)) (hin : vp_in i N) (hdg : decode cc pc = .ok (.aaload, 1)) (hp : pc + 1 = pc') (kk : qG X k n z h pc' L (va_rf (f i.toNatClampNeg) :: st)) : qG X k n z h pc L (.int i :: .ref a :: st) := by
  obtain ⟨D0, b0, p, l0, e, R0, s, m, args, below, meth, c, nL0, Q⟩ := X
  obtain ⟨rfl, rfl, rfl, rfl, rfl, hx, hb, hml, hown, hts, hK, hbs⟩ := C
  subst hp
  intro H locs ls hP hS hl
  have hlt : i.toNatClampNeg < N := Nat.not_le.mp fun q => hin (Or.inr q)
  exact W.aald (v := va_rf (f i.toNatClampNeg)) (ty := .object "EarlyGauge$Keeper") hx hb (hP.one he 0 _ rfl) ((hK.1.2 3 _ rfl).1 N (fun j => va_rf (f j))) rfl (fun q => by cases q) (by show ¬ (i < 0 ∨ (arrV _ _ _).slots.size ≤ _); rw [arrV_size]; exact hin) (by show (arrV _ _ _).slots[_]? = _; rw [arrV_read _ _ hlt]) rfl rfl hdg (kk H locs ls hP hS hl)
theorem g_aaldI (C : qC X D b l R cc own nL) {a N : Nat} {f : Nat → Option Nat} {i : Int32} (he : h a = some (cII D N f)) (hin : vp_in i N) (hdg : decode cc pc = .ok (.aaload, 1)) (hp : pc + 1 = pc') (kk : qG X k n z h pc' L (va_rf (f i.toNatClampNeg) :: st)) : qG X k n z h pc L (.int i :: .ref a :: st) := by
  obtain ⟨D0, b0, p, l0, e, R0, s, m, args, below, meth, c, nL0, Q⟩ := X
  obtain ⟨rfl, rfl, rfl, rfl, rfl, hx, hb, hml, hown, hts, hK, hbs⟩ := C
  subst hp
  intro H locs ls hP hS hl
  have hlt : i.toNatClampNeg < N := Nat.not_le.mp fun q => hin (Or.inr q)
  exact W.aald (v := va_rf (f i.toNatClampNeg)) (ty := .array .int) hx hb (hP.one he 0 _ rfl) ((hK.1.2 4 _ rfl).1 N (fun j => va_rf (f j))) rfl (fun q => by cases q) (by show ¬ (i < 0 ∨ (arrV _ _ _).slots.size ≤ _); rw [arrV_size]; exact hin) (by show (arrV _ _ _).slots[_]? = _; rw [arrV_read _ _ hlt]) rfl rfl hdg (kk H locs ls hP hS hl)
theorem g_aaldJ (C : qC X D b l R cc own nL) {a N : Nat} {f : Nat → Option Nat} {i : Int32} (he : h a = some (cJJ D N f)) (hin : vp_in i N) (hdg : decode cc pc = .ok (.aaload, 1)) (hp : pc + 1 = pc') (kk : qG X k n z h pc' L (va_rf (f i.toNatClampNeg) :: st)) : qG X k n z h pc L (.int i :: .ref a :: st) := by
  obtain ⟨D0, b0, p, l0, e, R0, s, m, args, below, meth, c, nL0, Q⟩ := X
  obtain ⟨rfl, rfl, rfl, rfl, rfl, hx, hb, hml, hown, hts, hK, hbs⟩ := C
  subst hp
  intro H locs ls hP hS hl
  have hlt : i.toNatClampNeg < N := Nat.not_le.mp fun q => hin (Or.inr q)
  exact W.aald (v := va_rf (f i.toNatClampNeg)) (ty := .array .long) hx hb (hP.one he 0 _ rfl) ((hK.1.2 5 _ rfl).1 N (fun j => va_rf (f j))) rfl (fun q => by cases q) (by show ¬ (i < 0 ∨ (arrV _ _ _).slots.size ≤ _); rw [arrV_size]; exact hin) (by show (arrV _ _ _).slots[_]? = _; rw [arrV_read _ _ hlt]) rfl rfl hdg (kk H locs ls hP hS hl)
theorem g_iast (C : qC X D b l R cc own nL) {a N : Nat} {f : Nat → Int32} {i : Int32} {x : Int32} (he : h a = some (cI D N f)) (hin : vp_in i N) (hdg : decode cc pc = .ok (.iastore, 1)) (hp : pc + 1 = pc') (kk : ∀ h1 : qH, h1 a = some (cI D N (upd f i.toNatClampNeg x)) → (∀ q, q ≠ a → h1 q = h q) → qG X k n z h1 pc' L st) : qG X k n z h pc L (.int x :: .int i :: .ref a :: st) := by
  obtain ⟨D0, b0, p, l0, e, R0, s, m, args, below, meth, c, nL0, Q⟩ := X
  obtain ⟨rfl, rfl, rfl, rfl, rfl, hx, hb, hml, hown, hts, hK, hbs⟩ := C
  subst hp
  intro H locs ls hP hS hl
  have hPo := hP.one he
  have hDo := hP.oneD he
  refine W.iast hx hb (hPo 0 _ rfl) ((hK.1.2 0 _ rfl).1 N (fun j => .int (f j))) (fun q => by cases q) (by show ¬ (i < 0 ∨ (arrV _ _ _).slots.size ≤ _); rw [arrV_size]; exact hin) rfl rfl hdg fun H1 e z1 oq => ?_
  refine kk _ q_at (fun q hq => q_ne hq) H1 _ ls (hP.set he ?_ z1 oq) (hS.put z1 oq (hDo.2 0 _ rfl)) hl
  show H1[a]? = some (vp_cell _ _)
  rw [e]
  rw [vp_cell_i, vp_cell_i, arrV_store]
  congr 2
  funext q
  by_cases hq : q = i.toNatClampNeg
  · subst hq
    simp [updV, upd]
    try rfl
  · simp [updV, upd, hq]
theorem g_bast (C : qC X D b l R cc own nL) {a N : Nat} {f : Nat → Int32} {i : Int32} {x : Int32} (he : h a = some (cB D N f)) (hin : vp_in i N) (hdg : decode cc pc = .ok (.bastore, 1)) (hp : pc + 1 = pc') (kk : ∀ h1 : qH, h1 a = some (cB D N (upd f i.toNatClampNeg (vp_nar .byte x))) → (∀ q, q ≠ a → h1 q = h q) → qG X k n z h1 pc' L st) : qG X k n z h pc L (.int x :: .int i :: .ref a :: st) := by
  obtain ⟨D0, b0, p, l0, e, R0, s, m, args, below, meth, c, nL0, Q⟩ := X
  obtain ⟨rfl, rfl, rfl, rfl, rfl, hx, hb, hml, hown, hts, hK, hbs⟩ := C
  subst hp
  intro H locs ls hP hS hl
  have hPo := hP.one he
  have hDo := hP.oneD he
  refine W.bast hx hb (hPo 0 _ rfl) ((hK.1.2 2 _ rfl).1 N (fun j => .int (f j))) (fun q => by cases q) (by show ¬ (i < 0 ∨ (arrV _ _ _).slots.size ≤ _); rw [arrV_size]; exact hin) rfl rfl hdg fun H1 e z1 oq => ?_
  refine kk _ q_at (fun q hq => q_ne hq) H1 _ ls (hP.set he ?_ z1 oq) (hS.put z1 oq (hDo.2 0 _ rfl)) hl
  show H1[a]? = some (vp_cell _ _)
  rw [e]
  rw [vp_cell_i, vp_cell_i, arrV_store]
  congr 2
  funext q
  by_cases hq : q = i.toNatClampNeg
  · subst hq
    simp [updV, upd, vp_nar]
    try rfl
  · simp [updV, upd, vp_nar, hq]
theorem g_last (C : qC X D b l R cc own nL) {a N : Nat} {f : Nat → Int64} {i : Int32} {x : Int64} (he : h a = some (cJ D N f)) (hin : vp_in i N) (hdg : decode cc pc = .ok (.lastore, 1)) (hp : pc + 1 = pc') (kk : ∀ h1 : qH, h1 a = some (cJ D N (vp_updL f i.toNatClampNeg x)) → (∀ q, q ≠ a → h1 q = h q) → qG X k n z h1 pc' L st) : qG X k n z h pc L (.long x :: .int i :: .ref a :: st) := by
  obtain ⟨D0, b0, p, l0, e, R0, s, m, args, below, meth, c, nL0, Q⟩ := X
  obtain ⟨rfl, rfl, rfl, rfl, rfl, hx, hb, hml, hown, hts, hK, hbs⟩ := C
  subst hp
  intro H locs ls hP hS hl
  have hPo := hP.one he
  have hDo := hP.oneD he
  refine W.last hx hb (hPo 0 _ rfl) ((hK.1.2 1 _ rfl).1 N (fun j => .long (f j))) (fun q => by cases q) (by show ¬ (i < 0 ∨ (arrV _ _ _).slots.size ≤ _); rw [arrV_size]; exact hin) rfl rfl hdg fun H1 e z1 oq => ?_
  refine kk _ q_at (fun q hq => q_ne hq) H1 _ ls (hP.set he ?_ z1 oq) (hS.put z1 oq (hDo.2 0 _ rfl)) hl
  show H1[a]? = some (vp_cell _ _)
  rw [e]
  rw [vp_cell_l, vp_cell_l, arrV_store]
  congr 2
  funext q
  by_cases hq : q = i.toNatClampNeg
  · subst hq
    simp [updV, vp_updL]
    try rfl
  · simp [updV, vp_updL, hq]
theorem g_alenQ (C : qC X D b l R cc own nL) {a N : Nat} {f : Nat → Option Nat} {v : Int32} (he : h a = some (cQ D N f)) (hv : Int32.ofNat N = v) (hdg : decode cc pc = .ok (.arraylength, 1)) (hp : pc + 1 = pc') (kk : qG X k n z h pc' L (.int v :: st)) : qG X k n z h pc L (.ref a :: st) := by
  obtain ⟨D0, b0, p, l0, e, R0, s, m, args, below, meth, c, nL0, Q⟩ := X
  obtain ⟨rfl, rfl, rfl, rfl, rfl, hx, hb, hml, hown, hts, hK, hbs⟩ := C
  subst hp
  intro H locs ls hP hS hl
  exact va_alen hx hb hK.1 (hP.one he) 0 3 rfl rfl hv hdg (kk H locs ls hP hS hl)
end QG
theorem AW_good : ∀ w ∈ AW, goodWord w = true := fun _ h => (List.mem_filter.mp h).2
theorem AW_in {y : MethodName} {c : ByteArray} {nl : Nat} {r : Option FieldType} (hc : Cond.code y c nl r ∈ AW) : GoodIn AW (wm y c nl r) := by
  intro w hw
  have hm : w ∈ AW := by
    rcases List.mem_cons.mp hw with rfl | h
    · exact hc
    · exact h
  exact ⟨hm, good_of_word (AW_good w hm)⟩
theorem AW_app {a w : List Cond} (ha : ∀ x ∈ a, x ∈ AW) (hw : GoodIn AW w) : GoodIn AW (a ++ w) := fun x hx => (List.mem_append.mp hx).elim (fun h => ⟨ha x h, good_of_word (AW_good x (ha x h))⟩) (hw x)
def qRm (f lo : Nat) : Room := { frames := f, cells := 0, slots := 0, locals := lo }
def qPre (D : va_G) (b : Nat) (h : qH) (z : Nat) : State → Prop := fun U => qP D b h z U.heap ∧ qK D U
theorem qBlind {D : va_G} {b : Nat} {h : qH} {z : Nat} {av : List Value} : FrameBlind (va_Pc av (qPre D b h z)) := fun a U g mk q => by
  obtain ⟨q0, q1, q2⟩ := q
  exact ⟨q0, q1, q2.same (u := U) (U := U.calling g mk a) rfl⟩
def qB (D : va_G) (b z : Nat) : qH → State → Prop := fun h' t => qP D b h' z t.heap
def qMi (l : Launch) (D : va_G) (b : Nat) (y : MethodName) (c : ByteArray) (nl : Nat) (rt : FieldType) (f lo : Nat) (av : List Value) (h : qH) (z : Nat) (post : Int32 → qH → Prop) : Prop := Met l y (wm y c nl (some rt)) (qRm f lo) (va_Pc av (qPre D b h z)) (va_Qi post (qB D b z) (qA b)) 0 0 (qA b)
def qMl (l : Launch) (D : va_G) (b : Nat) (y : MethodName) (c : ByteArray) (nl : Nat) (f lo : Nat) (av : List Value) (h : qH) (z : Nat) (post : Int64 → qH → Prop) : Prop := Met l y (wm y c nl (some .long)) (qRm f lo) (va_Pc av (qPre D b h z)) (va_Ql post (qB D b z) (qA b)) 0 0 (qA b)
def qMv (l : Launch) (D : va_G) (b : Nat) (y : MethodName) (c : ByteArray) (nl : Nat) (f lo : Nat) (av : List Value) (h : qH) (z : Nat) (post : qH → Prop) : Prop := Met l y (wm y c nl none) (qRm f lo) (va_Pc av (qPre D b h z)) (va_Qv post (qB D b z) (qA b)) 0 0 (qA b)
def qMq (l : Launch) (D : va_G) (b : Nat) (y : MethodName) (c : ByteArray) (nl : Nat) (rt : FieldType) (f lo : Nat) (av : List Value) (h : qH) (z : Nat) (post : Option Nat → qH → Prop) : Prop := Met l y (wm y c nl (some rt)) (qRm f lo) (va_Pc av (qPre D b h z)) (va_Qq post (qB D b z) (qA b)) 0 0 (qA b)
def qMc (l : Launch) (D : va_G) (b : Nat) (y : MethodName) (c : ByteArray) (nl : Nat) (f lo mc ms : Nat) (av : List Value) (h : qH) (z : Nat) (post : qH → Prop) : Prop := Met l y (wm y c nl none) ({ frames := f, cells := mc, slots := ms, locals := lo }) (va_Pc av (qPre D b h z)) (va_Qv post (qB D b (z + mc)) (qA b)) mc ms (qA b)
def qWV (own : String) (index : Nat) (Cn : String) (y : MethodName) (c : ByteArray) (nl : Nat) (r : Option FieldType) (na : Nat) : Prop := (Cond.methodLink own index y ∈ AW ∧ Cond.instanceMethod y ∈ AW ∧ Cond.selects Cn y y ∈ AW ∧ Cond.initialized Cn ∈ AW ∧ Cond.code y c nl r ∈ AW) ∧ y.cls = Cn ∧ y.cls ≠ "java/lang/invoke/MethodHandle" ∧ y.cls ≠ "java/lang/invoke/VarHandle" ∧ (parseMethodDescriptor y.desc).map (fun d => d.parameters.length) = some na
def qWS (own : String) (index : Nat) (y : MethodName) (c : ByteArray) (nl : Nat) (r : Option FieldType) (na : Nat) : Prop := (Cond.methodLink own index y ∈ AW ∧ Cond.static y ∈ AW ∧ Cond.initialized y.cls ∈ AW ∧ Cond.code y c nl r ∈ AW) ∧ y.cls ≠ "java/lang/invoke/MethodHandle" ∧ y.cls ≠ "java/lang/invoke/VarHandle" ∧ (parseMethodDescriptor y.desc).map (fun d => d.parameters.length) = some na
def qWSN (own : String) (index : Nat) (host : String) (y : MethodName) (c : ByteArray) (nl : Nat) (r : Option FieldType) (na : Nat) : Prop := ((own, index, y, host) ∈ qNM ∧ Cond.static y ∈ AW ∧ Cond.initialized y.cls ∈ AW ∧ Cond.code y c nl r ∈ AW) ∧ y.cls ≠ "java/lang/invoke/MethodHandle" ∧ y.cls ≠ "java/lang/invoke/VarHandle" ∧ (parseMethodDescriptor y.desc).map (fun d => d.parameters.length) = some na
def qWI (own : String) (index : Nat) (y : MethodName) (c : ByteArray) (nl : Nat) (na : Nat) : Prop := (Cond.methodLink own index y ∈ AW ∧ Cond.instanceMethod y ∈ AW ∧ Cond.initialized y.cls ∈ AW ∧ Cond.code y c nl none ∈ AW) ∧ y.name = "<init>" ∧ y.cls ≠ "java/lang/invoke/MethodHandle" ∧ y.cls ≠ "java/lang/invoke/VarHandle" ∧ (parseMethodDescriptor y.desc).map (fun d => d.parameters.length) = some na
def qWIN (own : String) (index : Nat) (host : String) (y : MethodName) (c : ByteArray) (nl : Nat) (na : Nat) : Prop := ((own, index, y, host) ∈ qNM ∧ Cond.instanceMethod y ∈ AW ∧ Cond.initialized y.cls ∈ AW ∧ Cond.code y c nl none ∈ AW) ∧ y.name = "<init>" ∧ y.cls ≠ "java/lang/invoke/MethodHandle" ∧ y.cls ≠ "java/lang/invoke/VarHandle" ∧ (parseMethodDescriptor y.desc).map (fun d => d.parameters.length) = some na
def qWSU (own : String) (index : Nat) (y : MethodName) (c : ByteArray) (nl : Nat) (r : Option FieldType) (na : Nat) : Prop := (Cond.methodLink own index y ∈ AW ∧ Cond.sameMethod y.cls y.cls y.name y.desc ∈ AW ∧ Cond.superclass own y.cls ∈ AW ∧ Cond.instanceMethod y ∈ AW ∧ Cond.initialized y.cls ∈ AW ∧ Cond.code y c nl r ∈ AW) ∧ y.name ≠ "<init>" ∧ (parseMethodDescriptor y.desc).map (fun d => d.parameters.length) = some na
def qWU (own : String) (index : Nat) (Cn owner : String) (x y : MethodName) (c : ByteArray) (nl : Nat) (r : Option FieldType) (na : Nat) : Prop := (Cond.methodLink own index x ∈ AW ∧ Cond.sameMethod x.cls owner x.name x.desc ∈ AW ∧ Cond.selects Cn x y ∈ AW ∧ Cond.instanceMethod y ∈ AW ∧ Cond.initialized y.cls ∈ AW ∧ Cond.code y c nl r ∈ AW) ∧ y = ⟨owner, x.name, x.desc⟩ ∧ owner ≠ "java/lang/invoke/MethodHandle" ∧ owner ≠ "java/lang/invoke/VarHandle" ∧ (parseMethodDescriptor x.desc).map (fun d => d.parameters.length) = some na
def qWO (own : String) (index : Nat) (Cn owner : String) (x y : MethodName) (c : ByteArray) (nl : Nat) (r : Option FieldType) (b0 : ByteArray) (m0 : Nat) (r0 : Option FieldType) (na : Nat) : Prop := (Cond.methodLink own index x ∈ AW ∧ Cond.sameMethod x.cls owner x.name x.desc ∈ AW ∧ Cond.instanceMethod ⟨owner, x.name, x.desc⟩ ∈ AW ∧ Cond.selects Cn x y ∈ AW ∧ Cond.instanceMethod y ∈ AW ∧ Cond.initialized y.cls ∈ AW ∧ Cond.code y c nl r ∈ AW ∧ Cond.code ⟨owner, x.name, x.desc⟩ b0 m0 r0 ∈ AW) ∧ owner ≠ "java/lang/invoke/MethodHandle" ∧ owner ≠ "java/lang/invoke/VarHandle" ∧ (parseMethodDescriptor x.desc).map (fun d => d.parameters.length) = some na
section QCALL
variable {X : qX} {D : va_G} {b : Nat} {l : Launch} {R : Room} {cc : ByteArray} {own : String} {nL : Nat} {k n z : Nat} {h : qH} {pc pc' : Nat} {L : List (Nat × Value)} {st stk : List Value}
variable {y : MethodName} {cy : ByteArray} {nl f lo mc ms na index : Nat} {rt : FieldType} {As : List Value}
theorem g_callVi (C : qC X D b l R cc own nL) {post : Int32 → qH → Prop} {a : Nat} {ci : Nat} {fs : List Value} {q : vw_C} (hM : qMi l D b y cy nl rt f lo (.ref a :: As) h z post) (hw : qWV own index q.1 y cy nl (some rt) na) (he : h a = some (.inr (ci, fs))) (hcl : vwCl[ci]? = some q) (hR : f + 1 ≤ R.frames ∧ 8 + (nl + 11) + lo ≤ R.locals) (hn : As.length = na) (hstk : stk = As.reverse ++ .ref a :: st) (hcat : (st.map fun v => v.category).sum ≤ 8) (hf : k ≤ R.cells ∧ n ≤ R.slots) (hdg : decode cc pc = .ok (.invokevirtual index, 3)) (hp : pc + 3 = pc') (kk : ∀ r h1, post r h1 → qG X k n z h1 pc' L (.int r :: st)) : qG X k n z h pc L stk := by
  obtain ⟨D0, b0, p, l0, e, R0, s, m, args, below, meth, c, nL0, Q⟩ := X
  obtain ⟨rfl, rfl, rfl, rfl, rfl, hx, hb, hml, hown, hts, hK, hbs⟩ := C
  subst hp
  intro H locs ls hP hS hl
  exact va_calli (va_runV (As := As) (rest := st) ⟨hx, hb, hml, hown, hts⟩ hM (cwV na hts (AW_app (a := [.methodLink own index y, .instanceMethod y, .selects q.1 y y, .initialized q.1]) (by intro w hw'; simp only [List.mem_cons, List.not_mem_nil, or_false] at hw'; rcases hw' with rfl | rfl | rfl | rfl <;> first | exact hw.1.1 | exact hw.1.2.1 | exact hw.1.2.2.1 | exact hw.1.2.2.2.1) (AW_in hw.1.2.2.2.2)) rfl rfl rfl hw.2 hR) ⟨qBlind, va_recv hK.1 (hP.one he) hcl (q0 := 0) rfl, fun U hU hW => ⟨rfl, by rw [hU]; exact hP, hK.warm hW⟩⟩ rfl hn hl.1 hstk (lv_room hcat) hdg ⟨hf.1, hf.2⟩) hS (fun q _ h => h) (fun q h => h) (fun r u t H1 locs ht hvm hpost hB hz hkeep hS => kk r u hpost H1 locs ls (by rw [← ht]; exact hB) hS hl)
theorem g_callVl (C : qC X D b l R cc own nL) {post : Int64 → qH → Prop} {a : Nat} {ci : Nat} {fs : List Value} {q : vw_C} (hM : qMl l D b y cy nl f lo (.ref a :: As) h z post) (hw : qWV own index q.1 y cy nl (some .long) na) (he : h a = some (.inr (ci, fs))) (hcl : vwCl[ci]? = some q) (hR : f + 1 ≤ R.frames ∧ 8 + (nl + 11) + lo ≤ R.locals) (hn : As.length = na) (hstk : stk = As.reverse ++ .ref a :: st) (hcat : (st.map fun v => v.category).sum ≤ 8) (hf : k ≤ R.cells ∧ n ≤ R.slots) (hdg : decode cc pc = .ok (.invokevirtual index, 3)) (hp : pc + 3 = pc') (kk : ∀ r h1, post r h1 → qG X k n z h1 pc' L (.long r :: st)) : qG X k n z h pc L stk := by
  obtain ⟨D0, b0, p, l0, e, R0, s, m, args, below, meth, c, nL0, Q⟩ := X
  obtain ⟨rfl, rfl, rfl, rfl, rfl, hx, hb, hml, hown, hts, hK, hbs⟩ := C
  subst hp
  intro H locs ls hP hS hl
  exact va_calll (va_runV (As := As) (rest := st) ⟨hx, hb, hml, hown, hts⟩ hM (cwV na hts (AW_app (a := [.methodLink own index y, .instanceMethod y, .selects q.1 y y, .initialized q.1]) (by intro w hw'; simp only [List.mem_cons, List.not_mem_nil, or_false] at hw'; rcases hw' with rfl | rfl | rfl | rfl <;> first | exact hw.1.1 | exact hw.1.2.1 | exact hw.1.2.2.1 | exact hw.1.2.2.2.1) (AW_in hw.1.2.2.2.2)) rfl rfl rfl hw.2 hR) ⟨qBlind, va_recv hK.1 (hP.one he) hcl (q0 := 0) rfl, fun U hU hW => ⟨rfl, by rw [hU]; exact hP, hK.warm hW⟩⟩ rfl hn hl.1 hstk (lv_room hcat) hdg ⟨hf.1, hf.2⟩) hS (fun q _ h => h) (fun q h => h) (fun r u t H1 locs ht hvm hpost hB hz hkeep hS => kk r u hpost H1 locs ls (by rw [← ht]; exact hB) hS hl)
theorem g_callVv (C : qC X D b l R cc own nL) {post : qH → Prop} {a : Nat} {ci : Nat} {fs : List Value} {q : vw_C} (hM : qMv l D b y cy nl f lo (.ref a :: As) h z post) (hw : qWV own index q.1 y cy nl none na) (he : h a = some (.inr (ci, fs))) (hcl : vwCl[ci]? = some q) (hR : f + 1 ≤ R.frames ∧ 8 + (nl + 11) + lo ≤ R.locals) (hn : As.length = na) (hstk : stk = As.reverse ++ .ref a :: st) (hcat : (st.map fun v => v.category).sum ≤ 8) (hf : k ≤ R.cells ∧ n ≤ R.slots) (hdg : decode cc pc = .ok (.invokevirtual index, 3)) (hp : pc + 3 = pc') (kk : ∀ h1, post h1 → qG X k n z h1 pc' L (st)) : qG X k n z h pc L stk := by
  obtain ⟨D0, b0, p, l0, e, R0, s, m, args, below, meth, c, nL0, Q⟩ := X
  obtain ⟨rfl, rfl, rfl, rfl, rfl, hx, hb, hml, hown, hts, hK, hbs⟩ := C
  subst hp
  intro H locs ls hP hS hl
  exact va_callv (va_runV (As := As) (rest := st) ⟨hx, hb, hml, hown, hts⟩ hM (cwV na hts (AW_app (a := [.methodLink own index y, .instanceMethod y, .selects q.1 y y, .initialized q.1]) (by intro w hw'; simp only [List.mem_cons, List.not_mem_nil, or_false] at hw'; rcases hw' with rfl | rfl | rfl | rfl <;> first | exact hw.1.1 | exact hw.1.2.1 | exact hw.1.2.2.1 | exact hw.1.2.2.2.1) (AW_in hw.1.2.2.2.2)) rfl rfl rfl hw.2 hR) ⟨qBlind, va_recv hK.1 (hP.one he) hcl (q0 := 0) rfl, fun U hU hW => ⟨rfl, by rw [hU]; exact hP, hK.warm hW⟩⟩ rfl hn hl.1 hstk (lv_room hcat) hdg ⟨hf.1, hf.2⟩) hS (fun q _ h => h) (fun q h => h) (fun u t H1 locs ht hvm hpost hB hz hkeep hS => kk u hpost H1 locs ls (by rw [← ht]; exact hB) hS hl)
theorem g_callVq (C : qC X D b l R cc own nL) {post : Option Nat → qH → Prop} {a : Nat} {ci : Nat} {fs : List Value} {q : vw_C} (hM : qMq l D b y cy nl rt f lo (.ref a :: As) h z post) (hw : qWV own index q.1 y cy nl (some rt) na) (he : h a = some (.inr (ci, fs))) (hcl : vwCl[ci]? = some q) (hR : f + 1 ≤ R.frames ∧ 8 + (nl + 11) + lo ≤ R.locals) (hn : As.length = na) (hstk : stk = As.reverse ++ .ref a :: st) (hcat : (st.map fun v => v.category).sum ≤ 8) (hf : k ≤ R.cells ∧ n ≤ R.slots) (hdg : decode cc pc = .ok (.invokevirtual index, 3)) (hp : pc + 3 = pc') (kk : ∀ r h1, post r h1 → qG X k n z h1 pc' L (va_rf r :: st)) : qG X k n z h pc L stk := by
  obtain ⟨D0, b0, p, l0, e, R0, s, m, args, below, meth, c, nL0, Q⟩ := X
  obtain ⟨rfl, rfl, rfl, rfl, rfl, hx, hb, hml, hown, hts, hK, hbs⟩ := C
  subst hp
  intro H locs ls hP hS hl
  exact va_callq (va_runV (As := As) (rest := st) ⟨hx, hb, hml, hown, hts⟩ hM (cwV na hts (AW_app (a := [.methodLink own index y, .instanceMethod y, .selects q.1 y y, .initialized q.1]) (by intro w hw'; simp only [List.mem_cons, List.not_mem_nil, or_false] at hw'; rcases hw' with rfl | rfl | rfl | rfl <;> first | exact hw.1.1 | exact hw.1.2.1 | exact hw.1.2.2.1 | exact hw.1.2.2.2.1) (AW_in hw.1.2.2.2.2)) rfl rfl rfl hw.2 hR) ⟨qBlind, va_recv hK.1 (hP.one he) hcl (q0 := 0) rfl, fun U hU hW => ⟨rfl, by rw [hU]; exact hP, hK.warm hW⟩⟩ rfl hn hl.1 hstk (lv_room hcat) hdg ⟨hf.1, hf.2⟩) hS (fun q _ h => h) (fun q h => h) (fun r u t H1 locs ht hvm hpost hB hz hkeep hS => kk r u hpost H1 locs ls (by rw [← ht]; exact hB) hS hl)
theorem g_callSi (C : qC X D b l R cc own nL) {post : Int32 → qH → Prop}  (hM : qMi l D b y cy nl rt f lo As h z post) (hw : qWS own index y cy nl (some rt) na)  (hR : f + 1 ≤ R.frames ∧ 8 + (nl + 11) + lo ≤ R.locals) (hn : As.length = na) (hstk : stk = As.reverse ++ st) (hcat : (st.map fun v => v.category).sum ≤ 8) (hf : k ≤ R.cells ∧ n ≤ R.slots) (hdg : decode cc pc = .ok (.invokestatic index, 3)) (hp : pc + 3 = pc') (kk : ∀ r h1, post r h1 → qG X k n z h1 pc' L (.int r :: st)) : qG X k n z h pc L stk := by
  obtain ⟨D0, b0, p, l0, e, R0, s, m, args, below, meth, c, nL0, Q⟩ := X
  obtain ⟨rfl, rfl, rfl, rfl, rfl, hx, hb, hml, hown, hts, hK, hbs⟩ := C
  subst hp
  intro H locs ls hP hS hl
  exact va_calli (va_runS (As := As) (rest := st) ⟨hx, hb, hml, hown, hts⟩ hM (va_cwS na hts (AW_app (a := [.methodLink own index y, .static y, .initialized y.cls]) (by intro w hw'; simp only [List.mem_cons, List.not_mem_nil, or_false] at hw'; rcases hw' with rfl | rfl | rfl <;> first | exact hw.1.1 | exact hw.1.2.1 | exact hw.1.2.2.1) (AW_in hw.1.2.2.2)) rfl rfl rfl hw.2 hR) ⟨qBlind, fun U hU hW => ⟨rfl, by rw [hU]; exact hP, hK.warm hW⟩⟩ rfl hn hl.1 hstk (lv_room hcat) hdg ⟨hf.1, hf.2⟩) hS (fun q _ h => h) (fun q h => h) (fun r u t H1 locs ht hvm hpost hB hz hkeep hS => kk r u hpost H1 locs ls (by rw [← ht]; exact hB) hS hl)
theorem g_callSl (C : qC X D b l R cc own nL) {post : Int64 → qH → Prop}  (hM : qMl l D b y cy nl f lo As h z post) (hw : qWS own index y cy nl (some .long) na)  (hR : f + 1 ≤ R.frames ∧ 8 + (nl + 11) + lo ≤ R.locals) (hn : As.length = na) (hstk : stk = As.reverse ++ st) (hcat : (st.map fun v => v.category).sum ≤ 8) (hf : k ≤ R.cells ∧ n ≤ R.slots) (hdg : decode cc pc = .ok (.invokestatic index, 3)) (hp : pc + 3 = pc') (kk : ∀ r h1, post r h1 → qG X k n z h1 pc' L (.long r :: st)) : qG X k n z h pc L stk := by
  obtain ⟨D0, b0, p, l0, e, R0, s, m, args, below, meth, c, nL0, Q⟩ := X
  obtain ⟨rfl, rfl, rfl, rfl, rfl, hx, hb, hml, hown, hts, hK, hbs⟩ := C
  subst hp
  intro H locs ls hP hS hl
  exact va_calll (va_runS (As := As) (rest := st) ⟨hx, hb, hml, hown, hts⟩ hM (va_cwS na hts (AW_app (a := [.methodLink own index y, .static y, .initialized y.cls]) (by intro w hw'; simp only [List.mem_cons, List.not_mem_nil, or_false] at hw'; rcases hw' with rfl | rfl | rfl <;> first | exact hw.1.1 | exact hw.1.2.1 | exact hw.1.2.2.1) (AW_in hw.1.2.2.2)) rfl rfl rfl hw.2 hR) ⟨qBlind, fun U hU hW => ⟨rfl, by rw [hU]; exact hP, hK.warm hW⟩⟩ rfl hn hl.1 hstk (lv_room hcat) hdg ⟨hf.1, hf.2⟩) hS (fun q _ h => h) (fun q h => h) (fun r u t H1 locs ht hvm hpost hB hz hkeep hS => kk r u hpost H1 locs ls (by rw [← ht]; exact hB) hS hl)
theorem g_callSq (C : qC X D b l R cc own nL) {post : Option Nat → qH → Prop}  (hM : qMq l D b y cy nl rt f lo As h z post) (hw : qWS own index y cy nl (some rt) na)  (hR : f + 1 ≤ R.frames ∧ 8 + (nl + 11) + lo ≤ R.locals) (hn : As.length = na) (hstk : stk = As.reverse ++ st) (hcat : (st.map fun v => v.category).sum ≤ 8) (hf : k ≤ R.cells ∧ n ≤ R.slots) (hdg : decode cc pc = .ok (.invokestatic index, 3)) (hp : pc + 3 = pc') (kk : ∀ r h1, post r h1 → qG X k n z h1 pc' L (va_rf r :: st)) : qG X k n z h pc L stk := by
  obtain ⟨D0, b0, p, l0, e, R0, s, m, args, below, meth, c, nL0, Q⟩ := X
  obtain ⟨rfl, rfl, rfl, rfl, rfl, hx, hb, hml, hown, hts, hK, hbs⟩ := C
  subst hp
  intro H locs ls hP hS hl
  exact va_callq (va_runS (As := As) (rest := st) ⟨hx, hb, hml, hown, hts⟩ hM (va_cwS na hts (AW_app (a := [.methodLink own index y, .static y, .initialized y.cls]) (by intro w hw'; simp only [List.mem_cons, List.not_mem_nil, or_false] at hw'; rcases hw' with rfl | rfl | rfl <;> first | exact hw.1.1 | exact hw.1.2.1 | exact hw.1.2.2.1) (AW_in hw.1.2.2.2)) rfl rfl rfl hw.2 hR) ⟨qBlind, fun U hU hW => ⟨rfl, by rw [hU]; exact hP, hK.warm hW⟩⟩ rfl hn hl.1 hstk (lv_room hcat) hdg ⟨hf.1, hf.2⟩) hS (fun q _ h => h) (fun q h => h) (fun r u t H1 locs ht hvm hpost hB hz hkeep hS => kk r u hpost H1 locs ls (by rw [← ht]; exact hB) hS hl)
theorem g_callSNi (C : qC X D b l R cc own nL) {post : Int32 → qH → Prop}  {host : String} (hM : qMi l D b y cy nl rt f lo As h z post) (hw : qWSN own index host y cy nl (some rt) na)  (hR : f + 1 ≤ R.frames ∧ 8 + (nl + 11) + lo ≤ R.locals) (hn : As.length = na) (hstk : stk = As.reverse ++ st) (hcat : (st.map fun v => v.category).sum ≤ 8) (hf : k ≤ R.cells ∧ n ≤ R.slots) (hdg : decode cc pc = .ok (.invokestatic index, 3)) (hp : pc + 3 = pc') (kk : ∀ r h1, post r h1 → qG X k n z h1 pc' L (.int r :: st)) : qG X k n z h pc L stk := by
  obtain ⟨D0, b0, p, l0, e, R0, s, m, args, below, meth, c, nL0, Q⟩ := X
  obtain ⟨rfl, rfl, rfl, rfl, rfl, hx, hb, hml, hown, hts, hK, hbs⟩ := C
  subst hp
  intro H locs ls hP hS hl
  exact va_calli (va_runSN (As := As) (rest := st) ⟨hx, hb, hml, hown, hts⟩ hM ⟨va_cnB na hts (AW_in hw.1.2.2.2) rfl rfl rfl (hK.2.2.1 _ hw.1.1) (hts _ hw.1.2.2.1) hw.2 hR, hts _ hw.1.2.1, trivial⟩ ⟨qBlind, fun U hU hW => ⟨rfl, by rw [hU]; exact hP, hK.warm hW⟩⟩ rfl hn hl.1 hstk (lv_room hcat) hdg ⟨hf.1, hf.2⟩) hS (fun q _ h => h) (fun q h => h) (fun r u t H1 locs ht hvm hpost hB hz hkeep hS => kk r u hpost H1 locs ls (by rw [← ht]; exact hB) hS hl)
theorem g_callIv (C : qC X D b l R cc own nL) {post : qH → Prop} {a : Nat} (hM : qMv l D b y cy nl f lo (.ref a :: As) h z post) (hw : qWI own index y cy nl na)  (hR : f + 1 ≤ R.frames ∧ 8 + (nl + 11) + lo ≤ R.locals) (hn : As.length = na) (hstk : stk = As.reverse ++ .ref a :: st) (hcat : (st.map fun v => v.category).sum ≤ 8) (hf : k ≤ R.cells ∧ n ≤ R.slots) (hdg : decode cc pc = .ok (.invokespecial index, 3)) (hp : pc + 3 = pc') (kk : ∀ h1, post h1 → qG X k n z h1 pc' L (st)) : qG X k n z h pc L stk := by
  obtain ⟨D0, b0, p, l0, e, R0, s, m, args, below, meth, c, nL0, Q⟩ := X
  obtain ⟨rfl, rfl, rfl, rfl, rfl, hx, hb, hml, hown, hts, hK, hbs⟩ := C
  subst hp
  intro H locs ls hP hS hl
  exact va_callv (va_runI (As := As) (rest := st) ⟨hx, hb, hml, hown, hts⟩ hM (cwI na hts (AW_in hw.1.2.2.2) rfl rfl rfl (hts _ hw.1.2.2.1) (hts _ hw.1.1) (hts _ hw.1.2.1) hw.2.1 hw.2.2 hR) ⟨qBlind, fun U hU hW => ⟨rfl, by rw [hU]; exact hP, hK.warm hW⟩⟩ rfl hn hl.1 hstk (lv_room hcat) hdg ⟨hf.1, hf.2⟩) hS (fun q _ h => h) (fun q h => h) (fun u t H1 locs ht hvm hpost hB hz hkeep hS => kk u hpost H1 locs ls (by rw [← ht]; exact hB) hS hl)
theorem g_callIc (C : qC X D b l R cc own nL) {post : qH → Prop} {a : Nat} (hM : qMc l D b y cy nl f lo mc ms (.ref a :: As) h z post) (hw : qWI own index y cy nl na)  (hR : f + 1 ≤ R.frames ∧ 8 + (nl + 11) + lo ≤ R.locals) (hn : As.length = na) (hstk : stk = As.reverse ++ .ref a :: st) (hcat : (st.map fun v => v.category).sum ≤ 8) (hf : k + mc ≤ R.cells ∧ n + ms ≤ R.slots) (hdg : decode cc pc = .ok (.invokespecial index, 3)) (hp : pc + 3 = pc') (kk : ∀ h1, post h1 → qG X (k + mc) (n + ms) (z + mc) h1 pc' L (st)) : qG X k n z h pc L stk := by
  obtain ⟨D0, b0, p, l0, e, R0, s, m, args, below, meth, c, nL0, Q⟩ := X
  obtain ⟨rfl, rfl, rfl, rfl, rfl, hx, hb, hml, hown, hts, hK, hbs⟩ := C
  subst hp
  intro H locs ls hP hS hl
  exact va_callv (va_runI (As := As) (rest := st) ⟨hx, hb, hml, hown, hts⟩ hM (cwI na hts (AW_in hw.1.2.2.2) rfl rfl rfl (hts _ hw.1.2.2.1) (hts _ hw.1.1) (hts _ hw.1.2.1) hw.2.1 hw.2.2 hR) ⟨qBlind, fun U hU hW => ⟨rfl, by rw [hU]; exact hP, hK.warm hW⟩⟩ rfl hn hl.1 hstk (lv_room hcat) hdg hf) hS (fun q _ h => h) (fun q h => h) (fun u t H1 locs ht hvm hpost hB hz hkeep hS => kk u hpost H1 locs ls (by rw [← ht]; exact hB) hS hl)
theorem g_callINc (C : qC X D b l R cc own nL) {post : qH → Prop} {a : Nat} {host : String} (hM : qMc l D b y cy nl f lo mc ms (.ref a :: As) h z post) (hw : qWIN own index host y cy nl na)  (hR : f + 1 ≤ R.frames ∧ 8 + (nl + 11) + lo ≤ R.locals) (hn : As.length = na) (hstk : stk = As.reverse ++ .ref a :: st) (hcat : (st.map fun v => v.category).sum ≤ 8) (hf : k + mc ≤ R.cells ∧ n + ms ≤ R.slots) (hdg : decode cc pc = .ok (.invokespecial index, 3)) (hp : pc + 3 = pc') (kk : ∀ h1, post h1 → qG X (k + mc) (n + ms) (z + mc) h1 pc' L (st)) : qG X k n z h pc L stk := by
  obtain ⟨D0, b0, p, l0, e, R0, s, m, args, below, meth, c, nL0, Q⟩ := X
  obtain ⟨rfl, rfl, rfl, rfl, rfl, hx, hb, hml, hown, hts, hK, hbs⟩ := C
  subst hp
  intro H locs ls hP hS hl
  exact va_callv (va_runIN (As := As) (rest := st) ⟨hx, hb, hml, hown, hts⟩ hM ⟨va_cnB na hts (AW_in hw.1.2.2.2) rfl rfl rfl (hK.2.2.1 _ hw.1.1) (hts _ hw.1.2.2.1) hw.2.2 hR, hw.2.1, hts _ hw.1.2.1⟩ ⟨qBlind, fun U hU hW => ⟨rfl, by rw [hU]; exact hP, hK.warm hW⟩⟩ rfl hn hl.1 hstk (lv_room hcat) hdg hf) hS (fun q _ h => h) (fun q h => h) (fun u t H1 locs ht hvm hpost hB hz hkeep hS => kk u hpost H1 locs ls (by rw [← ht]; exact hB) hS hl)
theorem g_callSUi (C : qC X D b l R cc own nL) {post : Int32 → qH → Prop} {a : Nat} {ci : Nat} {fs : List Value} {q : vw_C} (hM : qMi l D b y cy nl rt f lo (.ref a :: As) h z post) (hw : qWSU own index y cy nl (some rt) na) (he : h a = some (.inr (ci, fs))) (hcl : vwCl[ci]? = some q) (hR : f + 1 ≤ R.frames ∧ 8 + (nl + 11) + lo ≤ R.locals) (hn : As.length = na) (hstk : stk = As.reverse ++ .ref a :: st) (hcat : (st.map fun v => v.category).sum ≤ 8) (hf : k ≤ R.cells ∧ n ≤ R.slots) (hdg : decode cc pc = .ok (.invokespecial index, 3)) (hp : pc + 3 = pc') (kk : ∀ r h1, post r h1 → qG X k n z h1 pc' L (.int r :: st)) : qG X k n z h pc L stk := by
  obtain ⟨D0, b0, p, l0, e, R0, s, m, args, below, meth, c, nL0, Q⟩ := X
  obtain ⟨rfl, rfl, rfl, rfl, rfl, hx, hb, hml, hown, hts, hK, hbs⟩ := C
  subst hp
  intro H locs ls hP hS hl
  exact va_calli (va_runSU (As := As) (rest := st) ((hK.1.1 ci q hcl).2) ⟨hx, hb, hml, hown, hts⟩ hM (va_cwSU na hts (AW_app (a := [.methodLink own index y, .sameMethod y.cls y.cls y.name y.desc, .superclass own y.cls, .instanceMethod y, .initialized y.cls]) (by intro w hw'; simp only [List.mem_cons, List.not_mem_nil, or_false] at hw'; rcases hw' with rfl | rfl | rfl | rfl | rfl <;> first | exact hw.1.1 | exact hw.1.2.1 | exact hw.1.2.2.1 | exact hw.1.2.2.2.1 | exact hw.1.2.2.2.2.1) (AW_in hw.1.2.2.2.2.2)) rfl rfl rfl hw.2 hR) ⟨qBlind, va_recv hK.1 (hP.one he) hcl (q0 := 0) rfl, fun U hU hW => ⟨rfl, by rw [hU]; exact hP, hK.warm hW⟩⟩ rfl hn hl.1 hstk (lv_room hcat) hdg ⟨hf.1, hf.2⟩) hS (fun q _ h => h) (fun q h => h) (fun r u t H1 locs ht hvm hpost hB hz hkeep hS => kk r u hpost H1 locs ls (by rw [← ht]; exact hB) hS hl)
theorem g_callUi (C : qC X D b l R cc own nL) {post : Int32 → qH → Prop} {a : Nat} {owner : String} {x : MethodName} {ci : Nat} {fs : List Value} {q : vw_C} (hM : qMi l D b y cy nl rt f lo (.ref a :: As) h z post) (hw : qWU own index q.1 owner x y cy nl (some rt) na) (he : h a = some (.inr (ci, fs))) (hcl : vwCl[ci]? = some q) (hR : f + 1 ≤ R.frames ∧ 8 + (nl + 11) + lo ≤ R.locals) (hn : As.length = na) (hstk : stk = As.reverse ++ .ref a :: st) (hcat : (st.map fun v => v.category).sum ≤ 8) (hf : k ≤ R.cells ∧ n ≤ R.slots) (hdg : decode cc pc = .ok (.invokevirtual index, 3)) (hp : pc + 3 = pc') (kk : ∀ r h1, post r h1 → qG X k n z h1 pc' L (.int r :: st)) : qG X k n z h pc L stk := by
  obtain ⟨D0, b0, p, l0, e, R0, s, m, args, below, meth, c, nL0, Q⟩ := X
  obtain ⟨rfl, rfl, rfl, rfl, rfl, hx, hb, hml, hown, hts, hK, hbs⟩ := C
  subst hp
  intro H locs ls hP hS hl
  exact va_calli (va_runU (As := As) (rest := st) ⟨hx, hb, hml, hown, hts⟩ hM (va_cwU na hts (AW_app (a := [.methodLink own index x, .sameMethod x.cls owner x.name x.desc, .selects q.1 x y, .instanceMethod y, .initialized y.cls]) (by intro w hw'; simp only [List.mem_cons, List.not_mem_nil, or_false] at hw'; rcases hw' with rfl | rfl | rfl | rfl | rfl <;> first | exact hw.1.1 | exact hw.1.2.1 | exact hw.1.2.2.1 | exact hw.1.2.2.2.1 | exact hw.1.2.2.2.2.1) (AW_in hw.1.2.2.2.2.2)) rfl rfl rfl hw.2.1 hw.2.2 hR) ⟨qBlind, va_recv hK.1 (hP.one he) hcl (q0 := 0) rfl, fun U hU hW => ⟨rfl, by rw [hU]; exact hP, hK.warm hW⟩⟩ rfl hn hl.1 hstk (lv_room hcat) hdg ⟨hf.1, hf.2⟩) hS (fun q _ h => h) (fun q h => h) (fun r u t H1 locs ht hvm hpost hB hz hkeep hS => kk r u hpost H1 locs ls (by rw [← ht]; exact hB) hS hl)
theorem g_callOi (C : qC X D b l R cc own nL) {post : Int32 → qH → Prop} {a : Nat} {owner : String} {x : MethodName} {b0 : ByteArray} {m0 : Nat} {r0 : Option FieldType} {ci : Nat} {fs : List Value} {q : vw_C} (hM : qMi l D b y cy nl rt f lo (.ref a :: As) h z post) (hw : qWO own index q.1 owner x y cy nl (some rt) b0 m0 r0 na) (he : h a = some (.inr (ci, fs))) (hcl : vwCl[ci]? = some q) (hR : f + 1 ≤ R.frames ∧ 8 + (nl + 11) + lo ≤ R.locals) (hn : As.length = na) (hstk : stk = As.reverse ++ .ref a :: st) (hcat : (st.map fun v => v.category).sum ≤ 8) (hf : k ≤ R.cells ∧ n ≤ R.slots) (hdg : decode cc pc = .ok (.invokevirtual index, 3)) (hp : pc + 3 = pc') (kk : ∀ r h1, post r h1 → qG X k n z h1 pc' L (.int r :: st)) : qG X k n z h pc L stk := by
  obtain ⟨D0, b0, p, l0, e, R0, s, m, args, below, meth, c, nL0, Q⟩ := X
  obtain ⟨rfl, rfl, rfl, rfl, rfl, hx, hb, hml, hown, hts, hK, hbs⟩ := C
  subst hp
  intro H locs ls hP hS hl
  exact va_calli (va_runU (As := As) (rest := st) ⟨hx, hb, hml, hown, hts⟩ hM (va_cwO na hts (AW_app (a := [.methodLink own index x, .sameMethod x.cls owner x.name x.desc, .instanceMethod ⟨owner, x.name, x.desc⟩, .selects q.1 x y, .instanceMethod y, .initialized y.cls]) (by intro w hw'; simp only [List.mem_cons, List.not_mem_nil, or_false] at hw'; rcases hw' with rfl | rfl | rfl | rfl | rfl | rfl <;> first | exact hw.1.1 | exact hw.1.2.1 | exact hw.1.2.2.1 | exact hw.1.2.2.2.1 | exact hw.1.2.2.2.2.1 | exact hw.1.2.2.2.2.2.1) (AW_in hw.1.2.2.2.2.2.2.1)) rfl rfl rfl hw.1.2.2.2.2.2.2.2 hw.2 hR) ⟨qBlind, va_recv hK.1 (hP.one he) hcl (q0 := 0) rfl, fun U hU hW => ⟨rfl, by rw [hU]; exact hP, hK.warm hW⟩⟩ rfl hn hl.1 hstk (lv_room hcat) hdg ⟨hf.1, hf.2⟩) hS (fun q _ h => h) (fun q h => h) (fun r u t H1 locs ht hvm hpost hB hz hkeep hS => kk r u hpost H1 locs ls (by rw [← ht]; exact hB) hS hl)
theorem g_objInit (C : qC X D b l R cc own nL) {a : Nat} {idx : Nat} (hw : Cond.methodLink own idx objectInit ∈ AW ∧ Cond.instanceMethod objectInit ∈ AW ∧ Cond.code objectInit ⟨#[0xb1]⟩ 1 none ∈ AW) (hR : 1 ≤ R.frames ∧ (st.map fun v => v.category).sum + 12 ≤ R.locals) (hdg : decode cc pc = .ok (.invokespecial idx, 3)) (hp : pc + 3 = pc') (kk : qG X k n z h pc' L st) : qG X k n z h pc L (.ref a :: st) := by
  obtain ⟨D0, b0, p, l0, e, R0, s, m, args, below, meth, c, nL0, Q⟩ := X
  obtain ⟨rfl, rfl, rfl, rfl, rfl, hx, hb, hml, hown, hts, hK, hbs⟩ := C
  subst hp
  intro H locs ls hP hS hl
  refine W.objInit hx hb hown (hts _ hw.1) (hts _ hw.2.1) (hts _ hw.2.2) rfl (by rw [hml]; exact hl.1) rfl hdg hR.1 (by show 2 * 0 + _ + 12 ≤ _; rw [Nat.mul_zero, Nat.zero_add]; exact hR.2) ?_
  exact kk H locs ls hP hS hl
theorem g_mmax (C : qC X D b l R cc own nL) {x y : Int64} {v : Int64} (hw : Cond.methodLink own index Lib.MathLoose.max_long.x ∈ AW ∧ Cond.static Lib.MathLoose.max_long.x ∈ AW ∧ Cond.initialized "java/lang/Math" ∈ AW ∧ Cond.code Lib.MathLoose.max_long.x Lib.MathLoose.max_long.code 4 (some .long) ∈ AW) (hR : 1 ≤ R.frames ∧ (st.map fun v => v.category).sum + 15 ≤ R.locals) (hf : k ≤ R.cells ∧ n ≤ R.slots) (hdg : decode cc pc = .ok (.invokestatic index, 3)) (hp : pc + 3 = pc') (hv : v = (if y < x then x else y)) (kk : qG X k n z h pc' L (.long v :: st)) : qG X k n z h pc L (.long y :: .long x :: st) := by
  subst hv
  obtain ⟨D0, b0, p, l0, e, R0, s, m, args, below, meth, c, nL0, Q⟩ := X
  obtain ⟨rfl, rfl, rfl, rfl, rfl, hx, hb, hml, hown, hts, hK, hbs⟩ := C
  subst hp
  intro H locs ls hP hS hl
  exact va_mmax_long hx hb (by rw [hml]; exact hl.1.symm) hown (hts _ hw.1) (hts _ hw.2.1) (hts _ hw.2.2.1) (hts _ hw.2.2.2) hR.1 hR.2 hf.1 hf.2 hdg (kk H locs ls hP hS hl)
theorem g_mmin (C : qC X D b l R cc own nL) {x y : Int64} {v : Int64} (hw : Cond.methodLink own index Lib.MathLoose.min_long.x ∈ AW ∧ Cond.static Lib.MathLoose.min_long.x ∈ AW ∧ Cond.initialized "java/lang/Math" ∈ AW ∧ Cond.code Lib.MathLoose.min_long.x Lib.MathLoose.min_long.code 4 (some .long) ∈ AW) (hR : 1 ≤ R.frames ∧ (st.map fun v => v.category).sum + 15 ≤ R.locals) (hf : k ≤ R.cells ∧ n ≤ R.slots) (hdg : decode cc pc = .ok (.invokestatic index, 3)) (hp : pc + 3 = pc') (hv : v = (if y < x then y else x)) (kk : qG X k n z h pc' L (.long v :: st)) : qG X k n z h pc L (.long y :: .long x :: st) := by
  subst hv
  obtain ⟨D0, b0, p, l0, e, R0, s, m, args, below, meth, c, nL0, Q⟩ := X
  obtain ⟨rfl, rfl, rfl, rfl, rfl, hx, hb, hml, hown, hts, hK, hbs⟩ := C
  subst hp
  intro H locs ls hP hS hl
  exact va_mmin_long hx hb (by rw [hml]; exact hl.1.symm) hown (hts _ hw.1) (hts _ hw.2.1) (hts _ hw.2.2.1) (hts _ hw.2.2.2) hR.1 hR.2 hf.1 hf.2 hdg (kk H locs ls hP hS hl)
theorem g_instY (C : qC X D b l R cc own nL) {a ci : Nat} {fs : List Value} {q : vw_C} {nm : String} (hw : Cond.classLink own index nm ∈ AW) (hc : (q.1, nm) ∈ qYC) (he : h a = some (.inr (ci, fs))) (hcl : vwCl[ci]? = some q) (hdg : decode cc pc = .ok (.instanceof index, 3)) (hp : pc + 3 = pc') (kk : qG X k n z h pc' L (.int 1 :: st)) : qG X k n z h pc L (.ref a :: st) := by
  obtain ⟨D0, b0, p, l0, e, R0, s, m, args, below, meth, c, nL0, Q⟩ := X
  obtain ⟨rfl, rfl, rfl, rfl, rfl, hx, hb, hml, hown, hts, hK, hbs⟩ := C
  subst hp
  intro H locs ls hP hS hl
  exact va_instY hx hb hown (hts _ hw) (hK.2.2.2.1 _ hc) (va_recv hK.1 (hP.one he) hcl (q0 := 0) rfl) hdg (kk H locs ls hP hS hl)
theorem g_instS (C : qC X D b l R cc own nL) {a ci : Nat} {fs : List Value} {q : vw_C} (hw : Cond.classLink own index q.1 ∈ AW) (he : h a = some (.inr (ci, fs))) (hcl : vwCl[ci]? = some q) (hdg : decode cc pc = .ok (.instanceof index, 3)) (hp : pc + 3 = pc') (kk : qG X k n z h pc' L (.int 1 :: st)) : qG X k n z h pc L (.ref a :: st) := by
  obtain ⟨D0, b0, p, l0, e, R0, s, m, args, below, meth, c, nL0, Q⟩ := X
  obtain ⟨rfl, rfl, rfl, rfl, rfl, hx, hb, hml, hown, hts, hK, hbs⟩ := C
  subst hp
  intro H locs ls hP hS hl
  exact va_instS hx hb hown (hts _ hw) ((hK.1.1 ci q hcl).2) (va_recv hK.1 (hP.one he) hcl (q0 := 0) rfl) hdg (kk H locs ls hP hS hl)
theorem g_instN (C : qC X D b l R cc own nL) {a ci : Nat} {fs : List Value} {q : vw_C} {nm : String} (hw : Cond.classLink own index nm ∈ AW) (hc : (q.1, nm) ∈ qNC) (he : h a = some (.inr (ci, fs))) (hcl : vwCl[ci]? = some q) (hdg : decode cc pc = .ok (.instanceof index, 3)) (hp : pc + 3 = pc') (kk : qG X k n z h pc' L (.int 0 :: st)) : qG X k n z h pc L (.ref a :: st) := by
  obtain ⟨D0, b0, p, l0, e, R0, s, m, args, below, meth, c, nL0, Q⟩ := X
  obtain ⟨rfl, rfl, rfl, rfl, rfl, hx, hb, hml, hown, hts, hK, hbs⟩ := C
  subst hp
  intro H locs ls hP hS hl
  exact va_instNo hx hb hown (hts _ hw) (hK.2.2.2.2.1 _ hc) (va_recv hK.1 (hP.one he) hcl (q0 := 0) rfl) hdg (kk H locs ls hP hS hl)
end QCALL
section QENTRY
variable {D : va_G} {b : Nat} {l : Launch} {own : String} {h : qH} {z : Nat} {y : MethodName} {cy : ByteArray} {nl f lo mc ms : Nat} {rt : FieldType} {av : List Value} {L : List (Nat × Value)}
theorem q_i {post : Int32 → qH → Prop} (hy : plainName y.cls = true) (ho : y.cls = own) (hnl : (lg_sl av).length ≤ nl) (hL : lv_args 0 av = L) (body : ∀ X, qC X D b l (qRm f lo) cy own nl → (∀ (h1 : qH) (r : Int32) (pc : Nat) (L : List (Nat × Value)), decode cy pc = .ok (.ireturn, 1) → narrow rt (.int r) = .int r → post r h1 → qG X 0 0 z h1 pc L [.int r]) → qG X 0 0 z h 0 L []) : qMi l D b y cy nl rt f lo av h z post := by
  refine Met.ofW (cc := cy) (maxL := nl) (ret := (some rt)) hy rfl ?_
  intro p e s m args below meth c s₁ B hml hv
  obtain ⟨rfl, hP, hK⟩ := hv
  have hts := atoms_spec (ws := wm y cy nl (some rt)) B.pre
  rw [lg_entry_eq]
  have hlv := lv_entry av (n := nl) hnl
  rw [hL] at hlv
  generalize (lg_sl av ++ List.replicate (nl - (lg_sl av).length) Slot.unset).toArray = ls at hlv ⊢
  refine body (D, b, p, l, e, (qRm f lo), s, m, av.toArray, below, meth, c, nl, MQ below (va_Qi post (qB D b z) (qA b)) av.toArray s 0 0 (qA b)) ⟨rfl, rfl, rfl, rfl, rfl, B.exec, B.bytes, hml, by rw [← ho]; exact findClass_of_methodNamed B.named, fun w hw => hts w (List.mem_cons_of_mem _ hw), hK, by rw [hP.1]; exact hP.2.1⟩ (fun h1 r pc L hdg hn hpost => fun H locs ls hP hS hl => W.zret B.exec B.bytes B.returns hn (fun t ht hW => ⟨⟨r, h1, rfl, hpost, by show qP _ _ _ _ t.heap; rw [ht]; exact hP⟩, hS.F ht⟩) hS.2.2 hdg B.notSynchronized) s.heap [] ls hP va_S.rf hlv
theorem q_l {post : Int64 → qH → Prop} (hy : plainName y.cls = true) (ho : y.cls = own) (hnl : (lg_sl av).length ≤ nl) (hL : lv_args 0 av = L) (body : ∀ X, qC X D b l (qRm f lo) cy own nl → (∀ (h1 : qH) (r : Int64) (pc : Nat) (L : List (Nat × Value)), decode cy pc = .ok (.lreturn, 1) → post r h1 → qG X 0 0 z h1 pc L [.long r]) → qG X 0 0 z h 0 L []) : qMl l D b y cy nl f lo av h z post := by
  refine Met.ofW (cc := cy) (maxL := nl) (ret := (some .long)) hy rfl ?_
  intro p e s m args below meth c s₁ B hml hv
  obtain ⟨rfl, hP, hK⟩ := hv
  have hts := atoms_spec (ws := wm y cy nl (some .long)) B.pre
  rw [lg_entry_eq]
  have hlv := lv_entry av (n := nl) hnl
  rw [hL] at hlv
  generalize (lg_sl av ++ List.replicate (nl - (lg_sl av).length) Slot.unset).toArray = ls at hlv ⊢
  refine body (D, b, p, l, e, (qRm f lo), s, m, av.toArray, below, meth, c, nl, MQ below (va_Ql post (qB D b z) (qA b)) av.toArray s 0 0 (qA b)) ⟨rfl, rfl, rfl, rfl, rfl, B.exec, B.bytes, hml, by rw [← ho]; exact findClass_of_methodNamed B.named, fun w hw => hts w (List.mem_cons_of_mem _ hw), hK, by rw [hP.1]; exact hP.2.1⟩ (fun h1 r pc L hdg hpost => fun H locs ls hP hS hl => W.lret B.exec B.bytes B.returns (fun t ht hW => ⟨⟨r, h1, rfl, hpost, by show qP _ _ _ _ t.heap; rw [ht]; exact hP⟩, hS.F ht⟩) hS.2.2 hdg B.notSynchronized) s.heap [] ls hP va_S.rf hlv
theorem q_v {post : qH → Prop} (hy : plainName y.cls = true) (ho : y.cls = own) (hnl : (lg_sl av).length ≤ nl) (hL : lv_args 0 av = L) (body : ∀ X, qC X D b l (qRm f lo) cy own nl → (∀ (h1 : qH) (pc : Nat) (L : List (Nat × Value)), decode cy pc = .ok (.return_, 1) → post h1 → qG X 0 0 z h1 pc L []) → qG X 0 0 z h 0 L []) : qMv l D b y cy nl f lo av h z post := by
  refine Met.ofW (cc := cy) (maxL := nl) (ret := none) hy rfl ?_
  intro p e s m args below meth c s₁ B hml hv
  obtain ⟨rfl, hP, hK⟩ := hv
  have hts := atoms_spec (ws := wm y cy nl none) B.pre
  rw [lg_entry_eq]
  have hlv := lv_entry av (n := nl) hnl
  rw [hL] at hlv
  generalize (lg_sl av ++ List.replicate (nl - (lg_sl av).length) Slot.unset).toArray = ls at hlv ⊢
  refine body (D, b, p, l, e, (qRm f lo), s, m, av.toArray, below, meth, c, nl, MQ below (va_Qv post (qB D b z) (qA b)) av.toArray s 0 0 (qA b)) ⟨rfl, rfl, rfl, rfl, rfl, B.exec, B.bytes, hml, by rw [← ho]; exact findClass_of_methodNamed B.named, fun w hw => hts w (List.mem_cons_of_mem _ hw), hK, by rw [hP.1]; exact hP.2.1⟩ (fun h1 pc L hdg hpost => fun H locs ls hP hS hl => W.vret B.exec B.bytes B.returns (fun t ht hW => ⟨⟨h1, rfl, hpost, by show qP _ _ _ _ t.heap; rw [ht]; exact hP⟩, hS.F ht⟩) hS.2.2 hdg B.notSynchronized) s.heap [] ls hP va_S.rf hlv
theorem q_q {post : Option Nat → qH → Prop} (hy : plainName y.cls = true) (ho : y.cls = own) (hnl : (lg_sl av).length ≤ nl) (hL : lv_args 0 av = L) (hrt : (∃ n, rt = .object n) ∨ ∃ t, rt = .array t) (body : ∀ X, qC X D b l (qRm f lo) cy own nl → (∀ (h1 : qH) (r : Option Nat) (pc : Nat) (L : List (Nat × Value)), decode cy pc = .ok (.areturn, 1) → post r h1 → qG X 0 0 z h1 pc L [va_rf r]) → qG X 0 0 z h 0 L []) : qMq l D b y cy nl rt f lo av h z post := by
  refine Met.ofW (cc := cy) (maxL := nl) (ret := (some rt)) hy rfl ?_
  intro p e s m args below meth c s₁ B hml hv
  obtain ⟨rfl, hP, hK⟩ := hv
  have hts := atoms_spec (ws := wm y cy nl (some rt)) B.pre
  rw [lg_entry_eq]
  have hlv := lv_entry av (n := nl) hnl
  rw [hL] at hlv
  generalize (lg_sl av ++ List.replicate (nl - (lg_sl av).length) Slot.unset).toArray = ls at hlv ⊢
  refine body (D, b, p, l, e, (qRm f lo), s, m, av.toArray, below, meth, c, nl, MQ below (va_Qq post (qB D b z) (qA b)) av.toArray s 0 0 (qA b)) ⟨rfl, rfl, rfl, rfl, rfl, B.exec, B.bytes, hml, by rw [← ho]; exact findClass_of_methodNamed B.named, fun w hw => hts w (List.mem_cons_of_mem _ hw), hK, by rw [hP.1]; exact hP.2.1⟩ (fun h1 r pc L hdg hpost => fun H locs ls hP hS hl => W.aret B.exec B.bytes B.returns hrt (by cases r with | none => exact Or.inl rfl | some x => exact Or.inr ⟨x, rfl⟩) (fun t ht hW => ⟨⟨r, h1, rfl, hpost, by show qP _ _ _ _ t.heap; rw [ht]; exact hP⟩, hS.F ht⟩) hS.2.2 hdg B.notSynchronized) s.heap [] ls hP va_S.rf hlv
theorem q_c {post : qH → Prop} (hy : plainName y.cls = true) (ho : y.cls = own) (hnl : (lg_sl av).length ≤ nl) (hL : lv_args 0 av = L) (body : ∀ X, qC X D b l ({ frames := f, cells := mc, slots := ms, locals := lo } : Room) cy own nl → X.2.2.2.2.2.2.2.2.2.2.1.name = y.name → (∀ (h1 : qH) (pc : Nat) (L : List (Nat × Value)), decode cy pc = .ok (.return_, 1) → post h1 → qG X mc ms (z + mc) h1 pc L []) → qG X 0 0 z h 0 L []) : qMc l D b y cy nl f lo mc ms av h z post := by
  refine Met.ofW (cc := cy) (maxL := nl) (ret := none) hy rfl ?_
  intro p e s m args below meth c s₁ B hml hv
  obtain ⟨rfl, hP, hK⟩ := hv
  have hts := atoms_spec (ws := wm y cy nl none) B.pre
  rw [lg_entry_eq]
  have hlv := lv_entry av (n := nl) hnl
  rw [hL] at hlv
  generalize (lg_sl av ++ List.replicate (nl - (lg_sl av).length) Slot.unset).toArray = ls at hlv ⊢
  refine body (D, b, p, l, e, ({ frames := f, cells := mc, slots := ms, locals := lo } : Room), s, m, av.toArray, below, meth, c, nl, MQ below (va_Qv post (qB D b (z + mc)) (qA b)) av.toArray s mc ms (qA b)) ⟨rfl, rfl, rfl, rfl, rfl, B.exec, B.bytes, hml, by rw [← ho]; exact findClass_of_methodNamed B.named, fun w hw => hts w (List.mem_cons_of_mem _ hw), hK, by rw [hP.1]; exact hP.2.1⟩ (name_of_methodNamed B.named B.method).1 (fun h1 pc L hdg hpost => fun H locs ls hP hS hl => W.vret B.exec B.bytes B.returns (fun t ht hW => ⟨⟨h1, rfl, hpost, by show qP _ _ _ _ t.heap; rw [ht]; exact hP⟩, hS.F ht⟩) hS.2.2 hdg B.notSynchronized) s.heap [] ls hP va_S.rf hlv
end QENTRY

/-! ===== BEGIN words of one list among another's, by their places ===== -/
theorem goodIn_r {big : List Cond} (ws : List Cond) (ps : List Nat) (hp : ws = ps.filterMap (fun i => big[i]?)) (h : ws.all goodWord = true) : GoodIn big ws := by
  intro w hw
  have h1 := List.all_eq_true.mp h w hw
  rw [hp] at hw
  obtain ⟨i, -, hi⟩ := List.mem_filterMap.mp hw
  have hm : w ∈ big := by first | exact List.mem_of_getElem? hi | exact List.getElem?_mem hi
  exact ⟨hm, good_of_word h1⟩
theorem goodIn_app {big a b : List Cond} (ha : GoodIn big a) (hb : GoodIn big b) : GoodIn big (a ++ b) := fun w h => (List.mem_append.mp h).elim (ha w) (hb w)
theorem goodIn_ca {big a b : List Cond} {c : Cond} (ha : GoodIn big (c :: a)) (hb : GoodIn big b) : GoodIn big (c :: (a ++ b)) := fun w h => (List.mem_cons.mp h).elim (fun e => ha w (List.mem_cons.mpr (Or.inl e))) (fun h => (List.mem_append.mp h).elim (fun h => ha w (List.mem_cons.mpr (Or.inr h))) (hb w))
theorem goodIn_sub {big ws : List Cond} (hm : ∀ w ∈ ws, w ∈ big) (h : ws.all goodWord = true) : GoodIn big ws := fun w hw => ⟨hm w hw, good_of_word (List.all_eq_true.mp h w hw)⟩
/-! ===== END ===== -/

/-! ===== BEGIN new T[n][m]: the outer array a place, the inner ones among the pooled ===== -/
/-- f, but v at every address of l -/
def vr_up {α : Type} (f : Nat → α) (l : List Nat) (v : α) : Nat → α := fun a => if a ∈ l then v else f a
theorem vr_up_in {α : Type} {f : Nat → α} {l : List Nat} {v : α} {a : Nat} (h : a ∈ l) : vr_up f l v a = v := if_pos h
theorem vr_up_ne {α : Type} {f : Nat → α} {l : List Nat} {v : α} {a : Nat} (h : a ∉ l) : vr_up f l v a = f a := if_neg h
theorem vr_rows {L l : List Nat} {f : Nat → va_E} {e : va_E} (h : ∀ a, a ∈ l → a ∉ L) : va_pl L f ++ l.map (fun a => (a, e)) = va_pl (L ++ l) (vr_up f l e) := by
  unfold va_pl
  rw [List.map_append]
  congr 1
  · apply List.map_congr_left
    intro a ha
    rw [vr_up_ne (fun q => h a q ha)]
  · apply List.map_congr_left
    intro a ha
    rw [vr_up_in ha]
theorem vr_lay {X rows : va_W} {x : Nat × va_E} {pl : va_W} {D : va_G} {cl : List vw_C} {H : Heap} (hP : va_P D cl (((X ++ pl) ++ [x]) ++ rows) H) : va_P D cl ((X ++ [x]) ++ (pl ++ rows)) H := by
  rw [List.append_assoc (X ++ pl)] at hP
  have h := va_P.swap hP
  rw [← List.append_assoc X] at h
  have h2 := va_P.swap h
  rw [List.append_assoc (X ++ [x])] at h2
  exact h2
theorem vr_layD {X rows : va_W} {x : Nat × va_E} {pl : va_W} {A : Nat → Prop} (hD : va_D A (((X ++ pl) ++ [x]) ++ rows)) : va_D A ((X ++ [x]) ++ (pl ++ rows)) := by
  rw [List.append_assoc (X ++ pl)] at hD
  have h := va_D.swap hD
  rw [← List.append_assoc X] at h
  have h2 := va_D.swap h
  rw [List.append_assoc (X ++ [x])] at h2
  exact h2
theorem vr_outer (c : ClassId) (N h0 : Nat) : ∀ i : Nat, Jvm.Free.Multi.outerC c N h0 i = arrV c N (fun j => va_rf (if j < i then some (h0 + 1 + j) else none))
  | 0 => by
    show ({ cls := c, slots := Array.replicate N .null, vm := .none } : Cell) = _
    rw [arrV_new]
    refine congrArg (arrV c N) (funext fun j => ?_)
    simp [va_rf]
  | i + 1 => by
    show (Jvm.Free.Multi.outerC c N h0 i).setSlot i (.ref (h0 + 1 + i)) = _
    rw [vr_outer c N h0 i, arrV_store]
    refine congrArg (arrV c N) (funext fun j => ?_)
    by_cases e : j = i
    · subst e
      simp [updV, va_rf]
    · by_cases h : j < i
      · simp [updV, e, h, Nat.lt_succ_of_lt h]
      · simp [updV, e, h, show ¬ j < i + 1 by omega]
section VGM
variable {p : Program} {l : Launch} {e : Env} {R : Room} {s : State} {m : MethodId} {args : Array Value} {below : List Frame} {meth : Method} {c : Code} {H : Heap} {locs : List Loc} {cells slots : Nat} {Q : State → Prop}
variable {cc : ByteArray} {pc : Nat} {ls : Array Slot} {rest : List Value} {D : va_G} {cl : List vw_C} {A : Nat → Prop} {a : Nat} {tys : List (ClassId × FieldType)} {ws : va_W} {H0 : Heap}
theorem va_mna {X : va_W} {L : List Nat} {f : Nat → va_E} {cc : ByteArray} (hexec : p.tables.exec = Jvm.exec) (hb : c.code = cc) {own : String} {index : Nat} {ty : FieldType} {cy : ClassId} (hown : s.vm.findClass own = some m.cls) (hclink : (Cond.classLink own index ("[" ++ (FieldType.array ty).toString)).before args s = true) (hover : va_AOA ty s) (harr : (Cond.arrayClass ty).before args s = true) (hcy : s.vm.findClass (FieldType.array ty).toString = some cy)
    (hK : va_K D cl tys s) (hP : va_P D cl (X ++ va_pl L f) H) (hD : va_D A (X ++ va_pl L f)) (hS : va_S A H0 H locs) (hA : ∀ q, H0.size ≤ q → A q) {n k : Int32} {N' K' : Nat} {z : vp_A} (hn : ¬ n < 0) (hk : ¬ k < 0) (hN : n.toNatClampNeg = N') (hM : k.toNatClampNeg = K')
    (hb1 : N' * 4 ≤ 536870912) (hb2 : K' * componentBytes ty ≤ 536870912) (hb3 : K' ≤ 536870912) (hdf : fits ty (defaultValue ty) = true) (hdd : (defaultValue ty).isDefault = true) (hcells : cells + (1 + N') ≤ R.cells) (hslots : slots + (N' + N' * K') ≤ R.slots) (hz : ∀ c : ClassId, Jvm.Free.Multi.innerC c K' (defaultValue ty) = vp_cell c z) (hdg : decode cc pc = .ok (.multianewarray index 2, 4))
    (kk : ∀ (q : Nat) (r : Nat → Nat) (cA : ClassId) (H1 : Heap), (∀ i j : Nat, i < N' → j < N' → r i = r j → i = j) → (∀ i : Nat, i < N' → r i ∉ L) → va_K D cl (tys ++ [(cA, .array ty)]) s →
      va_P D cl ((X ++ [(q, .inl (cA, N', .inr (.inr (.inr (.inr (fun i => if i < N' then some (r i) else none))))))]) ++ va_pl (L ++ (List.range N').map r) (vr_up f ((List.range N').map r) (.inl (cy, z)))) H1 → va_D A ((X ++ [(q, .inl (cA, N', .inr (.inr (.inr (.inr (fun i => if i < N' then some (r i) else none))))))]) ++ va_pl (L ++ (List.range N').map r) (vr_up f ((List.range N').map r) (.inl (cy, z)))) → va_S A H0 H1 locs →
      W p l e R s m args below meth c H1 locs (cells + 1 + N') (slots + N' + N' * K') Q (F0 m (pc + 4) ls (.ref q :: rest))) : W p l e R s m args below meth c H locs cells slots Q (F0 m pc ls (.int k :: .int n :: rest)) := by
  subst hN
  subst hM
  intro T hT Xs
  obtain ⟨vm₁, cA, comp, -, fA, fC, hO, -, X', step⟩ := Xs.multianewarray2F hexec hown hclink (va_AOA.use hover) harr (g := F0 m pc ls (.int k :: .int n :: rest)) rfl (by rw [hb]; exact hdg) rfl hn hk hb1 hb2 hb3 hdf hdd hcells hslots
  have ec : some cy = some comp := hcy.symm.trans fC
  cases ec
  generalize hF : Jvm.Free.Multi.fill (T.setVm vm₁) cA cy n.toNatClampNeg k.toNatClampNeg (defaultValue ty) n.toNatClampNeg = F at X' step
  have hTh : (T.setVm vm₁).heap = H := hT
  obtain ⟨f1, f2, -, -⟩ := Jvm.Free.Multi.fill_facts (T.setVm vm₁) cA cy n.toNatClampNeg k.toNatClampNeg (defaultValue ty) n.toNatClampNeg
  rw [hF, hTh] at f1 f2
  have hold : ∀ x : Nat, x < H.size → F.heap[x]? = H[x]? := fun x hx => by
    have := Jvm.Free.Multi.fill_old (T.setVm vm₁) cA cy n.toNatClampNeg k.toNatClampNeg (defaultValue ty) (a := x) (by rw [hTh]; exact hx) n.toNatClampNeg
    rw [hF, hTh] at this
    exact this
  have hrow : ∀ j : Nat, j < n.toNatClampNeg → F.heap[H.size + 1 + j]? = some (vp_cell cy z) := fun j hj => by
    have := Jvm.Free.Multi.fill_inner (T.setVm vm₁) cA cy n.toNatClampNeg k.toNatClampNeg (defaultValue ty) n.toNatClampNeg j hj
    rw [hF, hTh, hz] at this
    exact this
  have hout : Jvm.Free.Multi.outerC cA n.toNatClampNeg H.size n.toNatClampNeg = vp_cell cA (n.toNatClampNeg, .inr (.inr (.inr (.inr (fun i => if i < n.toNatClampNeg then some (H.size + 1 + i) else none))))) := by
    rw [vp_cell_q]
    exact vr_outer cA n.toNatClampNeg H.size n.toNatClampNeg
  rw [hout] at f2
  have hlt : ∀ a, a ∈ L → a < H.size := fun a ha => by
    obtain ⟨k9, hk9⟩ := va_pl_get (X := X) (f := f) ha
    exact (hP k9 _ hk9).lt
  have hnl : ∀ i : Nat, i < n.toNatClampNeg → H.size + 1 + i ∉ L := fun i _ h => by
    have := hlt _ h
    omega
  have hnm : ∀ a, a ∈ (List.range n.toNatClampNeg).map (fun i => H.size + 1 + i) → a ∉ L := fun a ha h => by
    obtain ⟨i, -, rfl⟩ := List.mem_map.mp ha
    have := hlt _ h
    omega
  have hP0 : va_P D cl (X ++ va_pl L f) F.heap := hP.kept (fun k9 x hx => hold x.1 ((hP k9 x hx).lt))
  have hP1 : va_P D cl ((X ++ va_pl L f) ++ [(H.size, .inl (cA, n.toNatClampNeg, .inr (.inr (.inr (.inr (fun i => if i < n.toNatClampNeg then some (H.size + 1 + i) else none))))))]) F.heap := hP0.app (fun k9 x hx => by
    have h0 : k9 < 1 := (List.getElem?_eq_some_iff.mp hx).1
    rw [show k9 = 0 by omega] at hx
    cases hx
    exact f2)
  have hP2 : va_P D cl (((X ++ va_pl L f) ++ [(H.size, .inl (cA, n.toNatClampNeg, .inr (.inr (.inr (.inr (fun i => if i < n.toNatClampNeg then some (H.size + 1 + i) else none))))))]) ++ ((List.range n.toNatClampNeg).map (fun i => H.size + 1 + i)).map (fun a => (a, .inl (cy, z)))) F.heap := hP1.app (fun k9 x hx => by
    obtain ⟨a, ha, rfl⟩ := List.mem_map.mp (List.mem_of_getElem? hx)
    obtain ⟨i, hi, rfl⟩ := List.mem_map.mp ha
    exact hrow i (List.mem_range.mp hi))
  have hD2 : va_D A (((X ++ va_pl L f) ++ [(H.size, .inl (cA, n.toNatClampNeg, .inr (.inr (.inr (.inr (fun i => if i < n.toNatClampNeg then some (H.size + 1 + i) else none))))))]) ++ ((List.range n.toNatClampNeg).map (fun i => H.size + 1 + i)).map (fun a => (a, .inl (cy, z)))) := by
    have hD1 := hD.push (e := .inl (cA, n.toNatClampNeg, .inr (.inr (.inr (.inr (fun i => if i < n.toNatClampNeg then some (H.size + 1 + i) else none)))))) hP rfl (hA _ hS.1)
    generalize hW1 : (X ++ va_pl L f) ++ [(H.size, .inl (cA, n.toNatClampNeg, .inr (.inr (.inr (.inr (fun i => if i < n.toNatClampNeg then some (H.size + 1 + i) else none))))))] = W1 at hD1 hP1 ⊢
    have hle : ∀ (k9 : Nat) (x : Nat × va_E), W1[k9]? = some x → x.1 ≤ H.size := fun k9 x hx => by
      rw [← hW1] at hx
      by_cases hl : k9 < (X ++ va_pl L f).length
      · rw [List.getElem?_append_left hl] at hx
        exact Nat.le_of_lt ((hP k9 x hx).lt)
      · rw [List.getElem?_append_right (by omega)] at hx
        have h0 : k9 - (X ++ va_pl L f).length < 1 := (List.getElem?_eq_some_iff.mp hx).1
        rw [show k9 - (X ++ va_pl L f).length = 0 by omega] at hx
        cases hx
        exact Nat.le_refl _
    have hr : ∀ (k9 : Nat) (x : Nat × va_E), (((List.range n.toNatClampNeg).map (fun i => H.size + 1 + i)).map (fun a => ((a, .inl (cy, z)) : Nat × va_E)))[k9]? = some x → x.1 = H.size + 1 + k9 := fun k9 x hx => by
      rw [List.getElem?_map, List.getElem?_map] at hx
      by_cases h9 : k9 < n.toNatClampNeg
      · rw [List.getElem?_range h9] at hx
        cases hx
        rfl
      · have hn0 : (List.range n.toNatClampNeg)[k9]? = none := List.getElem?_eq_none (by rw [List.length_range]; omega)
        rw [hn0] at hx
        cases hx
    refine ⟨fun i j x y hi hj hxy => ?_, fun k9 x hx => ?_⟩
    · by_cases h1 : i < W1.length <;> by_cases h2 : j < W1.length
      · rw [List.getElem?_append_left h1] at hi
        rw [List.getElem?_append_left h2] at hj
        exact hD1.1 i j x y hi hj hxy
      · rw [List.getElem?_append_left h1] at hi
        rw [List.getElem?_append_right (by omega)] at hj
        have := hle _ _ hi
        have := hr _ _ hj
        omega
      · rw [List.getElem?_append_right (by omega)] at hi
        rw [List.getElem?_append_left h2] at hj
        have := hle _ _ hj
        have := hr _ _ hi
        omega
      · rw [List.getElem?_append_right (by omega)] at hi hj
        have := hr _ _ hi
        have := hr _ _ hj
        omega
    · by_cases h1 : k9 < W1.length
      · rw [List.getElem?_append_left h1] at hx
        exact hD1.2 k9 x hx
      · rw [List.getElem?_append_right (by omega)] at hx
        have := hr _ _ hx
        exact hA _ (by have := hS.1; omega)
  have hAr : ArrOfT s cA (.array ty) := fun N9 z9 => by
    obtain ⟨-, k9, hk9, cm9, hkk9⟩ := (hO 0 0 0).1
    exact ⟨(fun q hq => by cases hq), k9, hk9, cm9, hkk9⟩
  have hK2 : va_K D cl (tys ++ [(cA, .array ty)]) s := ⟨hK.1, fun k9 x hx => by
    by_cases hl : k9 < tys.length
    · rw [List.getElem?_append_left hl] at hx
      exact hK.2 k9 x hx
    · rw [List.getElem?_append_right (by omega)] at hx
      have h0 : k9 - tys.length < 1 := (List.getElem?_eq_some_iff.mp hx).1
      rw [show k9 - tys.length = 0 by omega] at hx
      cases hx
      exact ⟨hAr, fA⟩⟩
  obtain ⟨t, a1, b1⟩ := kk H.size (fun i => H.size + 1 + i) cA F.heap (fun i j _ _ h => by have h9 : H.size + 1 + i = H.size + 1 + j := h; omega) hnl hK2 (by rw [← vr_rows hnm]; exact vr_lay hP2) (by rw [← vr_rows hnm]; exact vr_layD hD2) ⟨by rw [f1]; have := hS.1; omega, fun x h1 h2 => (hold x (Nat.lt_of_lt_of_le h1 hS.1)).trans (hS.2.1 x h1 h2), hS.2.2⟩ F rfl X'
  refine ⟨t, step t ?_, b1⟩
  have e : T.heap.size = H.size := by rw [hT]
  rw [e]
  exact a1
end VGM
/-! ===== END ===== -/

/-! ===== BEGIN printed: names, fields, word lists, decode rows ===== -/
def RX0 : String := "EarlyGauge$Book"
def TX0 : u_T := fun k => match k with
  | 0 => ("EarlyGauge$Book", "weathers", "[I", true)
  | 1 => ("EarlyGauge$Book", "readings", "[I", true)
  | _ => ("EarlyGauge$Book", "days", "I", false)
def tyX0 : Nat → FieldType := fun k => match k with
  | 0 => .array .int
  | 1 => .array .int
  | _ => .int
abbrev wsX00 : List Cond := u_ws RX0 TX0 3
theorem nmX0 : ∀ a, a < 3 → ∀ b, b < 3 → a ≠ b → (TX0 a).2.1 ≠ (TX0 b).2.1 := by decide +kernel
theorem tyX0_ok : ∀ k, k < 3 → parseFieldDescriptor (TX0 k).2.2.1 = some (tyX0 k) := by decide +kernel
abbrev cX0_init : ByteArray := prog_2_method_1_code
def yX0_init : MethodName := ⟨RX0, "<init>", "()V"⟩
abbrev cX0_append : ByteArray := prog_2_method_2_code
def yX0_append : MethodName := ⟨RX0, "append", "(II)Z"⟩
abbrev cX0_copyFrom : ByteArray := prog_2_method_3_code
def yX0_copyFrom : MethodName := ⟨RX0, "copyFrom", "(LEarlyGauge$Book;)V"⟩
abbrev cX0_readingsSeen : ByteArray := prog_2_method_4_code
def yX0_readingsSeen : MethodName := ⟨RX0, "readingsSeen", "(I)I"⟩
abbrev cX0_wrongReadings : ByteArray := prog_2_method_5_code
def yX0_wrongReadings : MethodName := ⟨RX0, "wrongReadings", "(I)I"⟩
abbrev cX0_isSeen : ByteArray := prog_2_method_6_code
def yX0_isSeen : MethodName := ⟨RX0, "isSeen", "(II)Z"⟩
def RX1 : String := "EarlyGauge$Contrary"
def TX1 : u_T := fun k => match k with
  | 0 => ("EarlyGauge$Keeper", "cost", "I", true)
  | 1 => ("EarlyGauge$Keeper", "loss", "I", true)
  | _ => ("EarlyGauge$Keeper", "paid", "I", false)
def tyX1 : Nat → FieldType := fun k => match k with
  | 0 => .int
  | 1 => .int
  | _ => .int
abbrev wsX10 : List Cond := u_ws RX1 TX1 3
theorem nmX1 : ∀ a, a < 3 → ∀ b, b < 3 → a ≠ b → (TX1 a).2.1 ≠ (TX1 b).2.1 := by decide +kernel
theorem tyX1_ok : ∀ k, k < 3 → parseFieldDescriptor (TX1 k).2.2.1 = some (tyX1 k) := by decide +kernel
abbrev cX1_init : ByteArray := prog_3_method_1_code
def yX1_init : MethodName := ⟨RX1, "<init>", "(II)V"⟩
abbrev cX1_kindNumber : ByteArray := prog_3_method_2_code
def yX1_kindNumber : MethodName := ⟨RX1, "kindNumber", "()I"⟩
abbrev cX1_covers : ByteArray := prog_3_method_3_code
def yX1_covers : MethodName := ⟨RX1, "covers", "(LEarlyGauge$Outlook;)Z"⟩
def RX2 : String := "EarlyGauge$Farmer"
def TX2 : u_T := fun k => match k with
  | 0 => ("EarlyGauge$Keeper", "cost", "I", true)
  | 1 => ("EarlyGauge$Keeper", "loss", "I", true)
  | _ => ("EarlyGauge$Keeper", "paid", "I", false)
def tyX2 : Nat → FieldType := fun k => match k with
  | 0 => .int
  | 1 => .int
  | _ => .int
abbrev wsX20 : List Cond := u_ws RX2 TX2 3
theorem nmX2 : ∀ a, a < 3 → ∀ b, b < 3 → a ≠ b → (TX2 a).2.1 ≠ (TX2 b).2.1 := by decide +kernel
theorem tyX2_ok : ∀ k, k < 3 → parseFieldDescriptor (TX2 k).2.2.1 = some (tyX2 k) := by decide +kernel
abbrev cX2_init : ByteArray := prog_4_method_1_code
def yX2_init : MethodName := ⟨RX2, "<init>", "(II)V"⟩
abbrev cX2_kindNumber : ByteArray := prog_4_method_2_code
def yX2_kindNumber : MethodName := ⟨RX2, "kindNumber", "()I"⟩
abbrev cX2_covers : ByteArray := prog_4_method_3_code
def yX2_covers : MethodName := ⟨RX2, "covers", "(LEarlyGauge$Outlook;)Z"⟩
def RX3 : String := "EarlyGauge$Image"
def TX3 : u_T := fun k => match k with
  | 0 => ("EarlyGauge$Image", "coming", "LEarlyGauge$Outlook;", true)
  | 1 => ("EarlyGauge$Image", "book", "LEarlyGauge$Book;", true)
  | 2 => ("EarlyGauge$Image", "paid", "[I", true)
  | 3 => ("EarlyGauge$Image", "people", "I", false)
  | _ => ("EarlyGauge$Image", "kept", "Z", false)
def tyX3 : Nat → FieldType := fun k => match k with
  | 0 => .object "EarlyGauge$Outlook"
  | 1 => .object "EarlyGauge$Book"
  | 2 => .array .int
  | 3 => .int
  | _ => .boolean
abbrev wsX30 : List Cond := u_ws RX3 TX3 5
theorem nmX3 : ∀ a, a < 5 → ∀ b, b < 5 → a ≠ b → (TX3 a).2.1 ≠ (TX3 b).2.1 := by decide +kernel
theorem tyX3_ok : ∀ k, k < 5 → parseFieldDescriptor (TX3 k).2.2.1 = some (tyX3 k) := by decide +kernel
abbrev cX3_init : ByteArray := prog_5_method_1_code
def yX3_init : MethodName := ⟨RX3, "<init>", "(LEarlyGauge$Outlook;LEarlyGauge$Book;)V"⟩
def RX4 : String := "EarlyGauge$Keeper"
def TX4 : u_T := fun k => match k with
  | 0 => ("EarlyGauge$Keeper", "cost", "I", true)
  | 1 => ("EarlyGauge$Keeper", "loss", "I", true)
  | _ => ("EarlyGauge$Keeper", "paid", "I", false)
def tyX4 : Nat → FieldType := fun k => match k with
  | 0 => .int
  | 1 => .int
  | _ => .int
abbrev wsX40 : List Cond := u_ws RX4 TX4 3
theorem nmX4 : ∀ a, a < 3 → ∀ b, b < 3 → a ≠ b → (TX4 a).2.1 ≠ (TX4 b).2.1 := by decide +kernel
theorem tyX4_ok : ∀ k, k < 3 → parseFieldDescriptor (TX4 k).2.2.1 = some (tyX4 k) := by decide +kernel
abbrev cX4_init : ByteArray := prog_6_method_1_code
def yX4_init : MethodName := ⟨RX4, "<init>", "(II)V"⟩
abbrev cX4_kindNumber : ByteArray := prog_6_method_2_code
def yX4_kindNumber : MethodName := ⟨RX4, "kindNumber", "()I"⟩
abbrev cX4_covers : ByteArray := prog_6_method_3_code
def yX4_covers : MethodName := ⟨RX4, "covers", "(LEarlyGauge$Outlook;)Z"⟩
abbrev cX4_payment : ByteArray := prog_6_method_4_code
def yX4_payment : MethodName := ⟨RX4, "payment", "(LEarlyGauge$Outlook;I)I"⟩
def RX5 : String := "EarlyGauge$Knees"
def TX5 : u_T := fun k => match k with
  | 0 => ("EarlyGauge$Keeper", "cost", "I", true)
  | 1 => ("EarlyGauge$Keeper", "loss", "I", true)
  | _ => ("EarlyGauge$Keeper", "paid", "I", false)
def tyX5 : Nat → FieldType := fun k => match k with
  | 0 => .int
  | 1 => .int
  | _ => .int
abbrev wsX50 : List Cond := u_ws RX5 TX5 3
theorem nmX5 : ∀ a, a < 3 → ∀ b, b < 3 → a ≠ b → (TX5 a).2.1 ≠ (TX5 b).2.1 := by decide +kernel
theorem tyX5_ok : ∀ k, k < 3 → parseFieldDescriptor (TX5 k).2.2.1 = some (tyX5 k) := by decide +kernel
abbrev cX5_init : ByteArray := prog_7_method_1_code
def yX5_init : MethodName := ⟨RX5, "<init>", "(II)V"⟩
abbrev cX5_kindNumber : ByteArray := prog_7_method_2_code
def yX5_kindNumber : MethodName := ⟨RX5, "kindNumber", "()I"⟩
abbrev cX5_covers : ByteArray := prog_7_method_3_code
def yX5_covers : MethodName := ⟨RX5, "covers", "(LEarlyGauge$Outlook;)Z"⟩
def RX6 : String := "EarlyGauge$Miser"
def TX6 : u_T := fun k => match k with
  | 0 => ("EarlyGauge$Keeper", "cost", "I", true)
  | 1 => ("EarlyGauge$Keeper", "loss", "I", true)
  | _ => ("EarlyGauge$Keeper", "paid", "I", false)
def tyX6 : Nat → FieldType := fun k => match k with
  | 0 => .int
  | 1 => .int
  | _ => .int
abbrev wsX60 : List Cond := u_ws RX6 TX6 3
theorem nmX6 : ∀ a, a < 3 → ∀ b, b < 3 → a ≠ b → (TX6 a).2.1 ≠ (TX6 b).2.1 := by decide +kernel
theorem tyX6_ok : ∀ k, k < 3 → parseFieldDescriptor (TX6 k).2.2.1 = some (tyX6 k) := by decide +kernel
abbrev cX6_init : ByteArray := prog_8_method_1_code
def yX6_init : MethodName := ⟨RX6, "<init>", "(II)V"⟩
abbrev cX6_kindNumber : ByteArray := prog_8_method_2_code
def yX6_kindNumber : MethodName := ⟨RX6, "kindNumber", "()I"⟩
abbrev cX6_covers : ByteArray := prog_8_method_3_code
def yX6_covers : MethodName := ⟨RX6, "covers", "(LEarlyGauge$Outlook;)Z"⟩
def RX7 : String := "EarlyGauge$Outlook"
def TX7 : u_T := fun k => match k with
  | 0 => ("EarlyGauge$Outlook", "station", "LEarlyGauge$Station;", true)
  | 1 => ("EarlyGauge$Outlook", "readings", "[I", true)
  | 2 => ("EarlyGauge$Outlook", "dayNumber", "I", false)
  | 3 => ("EarlyGauge$Outlook", "weather", "I", false)
  | 4 => ("EarlyGauge$Outlook", "until", "[[J", true)
  | 5 => ("EarlyGauge$Outlook", "behind", "[[J", true)
  | 6 => ("EarlyGauge$Outlook", "best", "[[J", true)
  | _ => ("EarlyGauge$Outlook", "possible", "[[I", true)
def tyX7 : Nat → FieldType := fun k => match k with
  | 0 => .object "EarlyGauge$Station"
  | 1 => .array .int
  | 2 => .int
  | 3 => .int
  | 4 => .array (.array .long)
  | 5 => .array (.array .long)
  | 6 => .array (.array .long)
  | _ => .array (.array .int)
abbrev wsX70 : List Cond := u_ws RX7 TX7 8
theorem nmX7 : ∀ a, a < 8 → ∀ b, b < 8 → a ≠ b → (TX7 a).2.1 ≠ (TX7 b).2.1 := by decide +kernel
theorem tyX7_ok : ∀ k, k < 8 → parseFieldDescriptor (TX7 k).2.2.1 = some (tyX7 k) := by decide +kernel
abbrev cX7_init : ByteArray := prog_9_method_1_code
def yX7_init : MethodName := ⟨RX7, "<init>", "(LEarlyGauge$Station;)V"⟩
abbrev cX7_startAnew : ByteArray := prog_9_method_2_code
def yX7_startAnew : MethodName := ⟨RX7, "startAnew", "(I)V"⟩
abbrev cX7_copyFrom : ByteArray := prog_9_method_3_code
def yX7_copyFrom : MethodName := ⟨RX7, "copyFrom", "(LEarlyGauge$Outlook;)V"⟩
abbrev cX7_passDay : ByteArray := prog_9_method_4_code
def yX7_passDay : MethodName := ⟨RX7, "passDay", "(I)V"⟩
abbrev cX7_tell : ByteArray := prog_9_method_5_code
def yX7_tell : MethodName := ⟨RX7, "tell", "(I)Z"⟩
abbrev cX7_readingOf : ByteArray := prog_9_method_6_code
def yX7_readingOf : MethodName := ⟨RX7, "readingOf", "(I)I"⟩
abbrev cX7_readingsTold : ByteArray := prog_9_method_7_code
def yX7_readingsTold : MethodName := ⟨RX7, "readingsTold", "()I"⟩
abbrev cX7_oddsOf : ByteArray := prog_9_method_8_code
def yX7_oddsOf : MethodName := ⟨RX7, "oddsOf", "(II)J"⟩
abbrev cX7_allOdds : ByteArray := prog_9_method_9_code
def yX7_allOdds : MethodName := ⟨RX7, "allOdds", "()J"⟩
abbrev cX7_possibleDays : ByteArray := prog_9_method_10_code
def yX7_possibleDays : MethodName := ⟨RX7, "possibleDays", "()I"⟩
abbrev cX7_sureWeather : ByteArray := prog_9_method_11_code
def yX7_sureWeather : MethodName := ⟨RX7, "sureWeather", "(I)I"⟩
abbrev cX7_numberOfMostOdds : ByteArray := prog_9_method_12_code
def yX7_numberOfMostOdds : MethodName := ⟨RX7, "numberOfMostOdds", "()I"⟩
abbrev cX7_meanByKnowing : ByteArray := prog_9_method_13_code
def yX7_meanByKnowing : MethodName := ⟨RX7, "meanByKnowing", "(III)J"⟩
abbrev cX7_reckon : ByteArray := prog_9_method_14_code
def yX7_reckon : MethodName := ⟨RX7, "reckon", "()V"⟩
abbrev cX7_reckonBehind : ByteArray := prog_9_method_15_code
def yX7_reckonBehind : MethodName := ⟨RX7, "reckonBehind", "()V"⟩
abbrev cX7_reckonUntil : ByteArray := prog_9_method_16_code
def yX7_reckonUntil : MethodName := ⟨RX7, "reckonUntil", "()V"⟩
abbrev cX7_stepOdds : ByteArray := prog_9_method_17_code
def yX7_stepOdds : MethodName := ⟨RX7, "stepOdds", "(III)J"⟩
def RX8 : String := "EarlyGauge$Page"
def TX8 : u_T := fun k => match k with
  | 0 => ("EarlyGauge$Page", "codes", "[I", true)
  | _ => ("EarlyGauge$Page", "letters", "I", false)
def tyX8 : Nat → FieldType := fun k => match k with
  | 0 => .array .int
  | _ => .int
abbrev wsX80 : List Cond := u_ws RX8 TX8 2
theorem nmX8 : ∀ a, a < 2 → ∀ b, b < 2 → a ≠ b → (TX8 a).2.1 ≠ (TX8 b).2.1 := by decide +kernel
theorem tyX8_ok : ∀ k, k < 2 → parseFieldDescriptor (TX8 k).2.2.1 = some (tyX8 k) := by decide +kernel
abbrev cX8_init : ByteArray := prog_10_method_1_code
def yX8_init : MethodName := ⟨RX8, "<init>", "()V"⟩
abbrev cX8_append : ByteArray := prog_10_method_2_code
def yX8_append : MethodName := ⟨RX8, "append", "(I)Z"⟩
abbrev cX8_codeAt : ByteArray := prog_10_method_3_code
def yX8_codeAt : MethodName := ⟨RX8, "codeAt", "(I)I"⟩
abbrev cX8_digitAt : ByteArray := prog_10_method_4_code
def yX8_digitAt : MethodName := ⟨RX8, "digitAt", "(I)I"⟩
abbrev cX8_isStation : ByteArray := prog_10_method_5_code
def yX8_isStation : MethodName := ⟨RX8, "isStation", "()Z"⟩
abbrev cX8_firstFault : ByteArray := prog_10_method_6_code
def yX8_firstFault : MethodName := ⟨RX8, "firstFault", "()I"⟩
abbrev cX8_isGoodAt : ByteArray := prog_10_method_7_code
def yX8_isGoodAt : MethodName := ⟨RX8, "isGoodAt", "(I)Z"⟩
abbrev cX8_isGoodTenths : ByteArray := prog_10_method_8_code
def yX8_isGoodTenths : MethodName := ⟨RX8, "isGoodTenths", "(I)Z"⟩
def RX9 : String := "EarlyGauge$Station"
def TX9 : u_T := fun k => match k with
  | 0 => ("EarlyGauge$Station", "tenths", "[I", true)
  | 1 => ("EarlyGauge$Station", "early", "I", false)
  | _ => ("EarlyGauge$Station", "slip", "I", false)
def tyX9 : Nat → FieldType := fun k => match k with
  | 0 => .array .int
  | 1 => .int
  | _ => .int
abbrev wsX90 : List Cond := u_ws RX9 TX9 3
theorem nmX9 : ∀ a, a < 3 → ∀ b, b < 3 → a ≠ b → (TX9 a).2.1 ≠ (TX9 b).2.1 := by decide +kernel
theorem tyX9_ok : ∀ k, k < 3 → parseFieldDescriptor (TX9 k).2.2.1 = some (tyX9 k) := by decide +kernel
abbrev cX9_init : ByteArray := prog_11_method_1_code
def yX9_init : MethodName := ⟨RX9, "<init>", "()V"⟩
abbrev cX9_isRead : ByteArray := prog_11_method_2_code
def yX9_isRead : MethodName := ⟨RX9, "isRead", "()Z"⟩
abbrev cX9_read : ByteArray := prog_11_method_3_code
def yX9_read : MethodName := ⟨RX9, "read", "(LEarlyGauge$Page;)V"⟩
abbrev cX9_tenthsFrom : ByteArray := prog_11_method_4_code
def yX9_tenthsFrom : MethodName := ⟨RX9, "tenthsFrom", "(II)I"⟩
abbrev cX9_fit : ByteArray := prog_11_method_5_code
def yX9_fit : MethodName := ⟨RX9, "fit", "(II)I"⟩
def RX10 : String := "EarlyGauge$Trial"
def TX10 : u_T := fun k => match k with
  | 0 => ("EarlyGauge$Trial", "station", "LEarlyGauge$Station;", true)
  | 1 => ("EarlyGauge$Trial", "coming", "LEarlyGauge$Outlook;", true)
  | 2 => ("EarlyGauge$Trial", "drawn", "[I", true)
  | 3 => ("EarlyGauge$Trial", "drawnAhead", "I", false)
  | 4 => ("EarlyGauge$Trial", "seed", "J", false)
  | 5 => ("EarlyGauge$Trial", "wet", "I", false)
  | 6 => ("EarlyGauge$Trial", "paid", "I", false)
  | _ => ("EarlyGauge$Trial", "slipped", "I", false)
def tyX10 : Nat → FieldType := fun k => match k with
  | 0 => .object "EarlyGauge$Station"
  | 1 => .object "EarlyGauge$Outlook"
  | 2 => .array .int
  | 3 => .int
  | 4 => .long
  | 5 => .int
  | 6 => .int
  | _ => .int
abbrev wsX100 : List Cond := u_ws RX10 TX10 8
theorem nmX10 : ∀ a, a < 8 → ∀ b, b < 8 → a ≠ b → (TX10 a).2.1 ≠ (TX10 b).2.1 := by decide +kernel
theorem tyX10_ok : ∀ k, k < 8 → parseFieldDescriptor (TX10 k).2.2.1 = some (tyX10 k) := by decide +kernel
abbrev cX10_init : ByteArray := prog_12_method_1_code
def yX10_init : MethodName := ⟨RX10, "<init>", "(LEarlyGauge$Station;LEarlyGauge$Outlook;)V"⟩
abbrev cX10_begin : ByteArray := prog_12_method_2_code
def yX10_begin : MethodName := ⟨RX10, "begin", "(II)V"⟩
abbrev cX10_tellOne : ByteArray := prog_12_method_3_code
def yX10_tellOne : MethodName := ⟨RX10, "tellOne", "()V"⟩
abbrev cX10_passOne : ByteArray := prog_12_method_4_code
def yX10_passOne : MethodName := ⟨RX10, "passOne", "([LEarlyGauge$Keeper;)V"⟩
abbrev cX10_drawWeather : ByteArray := prog_12_method_5_code
def yX10_drawWeather : MethodName := ⟨RX10, "drawWeather", "(I)I"⟩
abbrev cX10_draw : ByteArray := prog_12_method_6_code
def yX10_draw : MethodName := ⟨RX10, "draw", "()I"⟩
def RX11 : String := "EarlyGauge"
def TX11 : u_T := fun k => match k with
  | 0 => ("EarlyGauge", "page", "LEarlyGauge$Page;", true)
  | 1 => ("EarlyGauge", "station", "LEarlyGauge$Station;", true)
  | 2 => ("EarlyGauge", "coming", "LEarlyGauge$Outlook;", true)
  | 3 => ("EarlyGauge", "people", "[LEarlyGauge$Keeper;", true)
  | 4 => ("EarlyGauge", "book", "LEarlyGauge$Book;", true)
  | 5 => ("EarlyGauge", "trial", "LEarlyGauge$Trial;", true)
  | 6 => ("EarlyGauge", "image", "LEarlyGauge$Image;", true)
  | _ => ("EarlyGauge", "stationsRead", "I", false)
def tyX11 : Nat → FieldType := fun k => match k with
  | 0 => .object "EarlyGauge$Page"
  | 1 => .object "EarlyGauge$Station"
  | 2 => .object "EarlyGauge$Outlook"
  | 3 => .array (.object "EarlyGauge$Keeper")
  | 4 => .object "EarlyGauge$Book"
  | 5 => .object "EarlyGauge$Trial"
  | 6 => .object "EarlyGauge$Image"
  | _ => .int
abbrev wsX110 : List Cond := u_ws RX11 TX11 8
theorem nmX11 : ∀ a, a < 8 → ∀ b, b < 8 → a ≠ b → (TX11 a).2.1 ≠ (TX11 b).2.1 := by decide +kernel
theorem tyX11_ok : ∀ k, k < 8 → parseFieldDescriptor (TX11 k).2.2.1 = some (tyX11 k) := by decide +kernel
abbrev cX11_init : ByteArray := prog_1_method_1_code
def yX11_init : MethodName := ⟨RX11, "<init>", "()V"⟩
abbrev cX11_letter : ByteArray := prog_1_method_2_code
def yX11_letter : MethodName := ⟨RX11, "letter", "(I)I"⟩
abbrev cX11_blank : ByteArray := prog_1_method_3_code
def yX11_blank : MethodName := ⟨RX11, "blank", "()I"⟩
abbrev cX11_fault : ByteArray := prog_1_method_4_code
def yX11_fault : MethodName := ⟨RX11, "fault", "()I"⟩
abbrev cX11_station : ByteArray := prog_1_method_5_code
def yX11_station : MethodName := ⟨RX11, "station", "()I"⟩
abbrev cX11_follows : ByteArray := prog_1_method_6_code
def yX11_follows : MethodName := ⟨RX11, "follows", "(II)I"⟩
abbrev cX11_reading : ByteArray := prog_1_method_7_code
def yX11_reading : MethodName := ⟨RX11, "reading", "(I)I"⟩
abbrev cX11_told : ByteArray := prog_1_method_8_code
def yX11_told : MethodName := ⟨RX11, "told", "(I)I"⟩
abbrev cX11_day : ByteArray := prog_1_method_9_code
def yX11_day : MethodName := ⟨RX11, "day", "(I)I"⟩
abbrev cX11_person : ByteArray := prog_1_method_10_code
def yX11_person : MethodName := ⟨RX11, "person", "(III)I"⟩
abbrev cX11_about : ByteArray := prog_1_method_11_code
def yX11_about : MethodName := ⟨RX11, "about", "(II)I"⟩
abbrev cX11_as : ByteArray := prog_1_method_12_code
def yX11_as : MethodName := ⟨RX11, "as", "(II)I"⟩
abbrev cX11_likely : ByteArray := prog_1_method_13_code
def yX11_likely : MethodName := ⟨RX11, "likely", "(III)J"⟩
abbrev cX11_likeliest : ByteArray := prog_1_method_14_code
def yX11_likeliest : MethodName := ⟨RX11, "likeliest", "()I"⟩
abbrev cX11_ways : ByteArray := prog_1_method_15_code
def yX11_ways : MethodName := ⟨RX11, "ways", "()I"⟩
abbrev cX11_sure : ByteArray := prog_1_method_16_code
def yX11_sure : MethodName := ⟨RX11, "sure", "(I)I"⟩
abbrev cX11_look : ByteArray := prog_1_method_17_code
def yX11_look : MethodName := ⟨RX11, "look", "(III)J"⟩
abbrev cX11_book : ByteArray := prog_1_method_18_code
def yX11_book : MethodName := ⟨RX11, "book", "(II)I"⟩
abbrev cX11_forget : ByteArray := prog_1_method_19_code
def yX11_forget : MethodName := ⟨RX11, "forget", "()I"⟩
abbrev cX11_wrong : ByteArray := prog_1_method_20_code
def yX11_wrong : MethodName := ⟨RX11, "wrong", "(I)I"⟩
abbrev cX11_earliest : ByteArray := prog_1_method_21_code
def yX11_earliest : MethodName := ⟨RX11, "earliest", "()I"⟩
abbrev cX11_days : ByteArray := prog_1_method_22_code
def yX11_days : MethodName := ⟨RX11, "days", "(III)I"⟩
abbrev cX11_image : ByteArray := prog_1_method_23_code
def yX11_image : MethodName := ⟨RX11, "image", "()I"⟩
abbrev cX11_restore : ByteArray := prog_1_method_24_code
def yX11_restore : MethodName := ⟨RX11, "restore", "()I"⟩
abbrev cX11_count : ByteArray := prog_1_method_25_code
def yX11_count : MethodName := ⟨RX11, "count", "(I)I"⟩
abbrev cX11_digest : ByteArray := prog_1_method_26_code
def yX11_digest : MethodName := ⟨RX11, "digest", "()J"⟩
abbrev cX11_digestOfPeople : ByteArray := prog_1_method_27_code
def yX11_digestOfPeople : MethodName := ⟨RX11, "digestOfPeople", "(J)J"⟩
abbrev cX11_digestOfComing : ByteArray := prog_1_method_28_code
def yX11_digestOfComing : MethodName := ⟨RX11, "digestOfComing", "(J)J"⟩
abbrev cX11_digestOfLikely : ByteArray := prog_1_method_29_code
def yX11_digestOfLikely : MethodName := ⟨RX11, "digestOfLikely", "(JI)J"⟩
abbrev cX11_isWeather : ByteArray := prog_1_method_30_code
def yX11_isWeather : MethodName := ⟨RX11, "isWeather", "(I)Z"⟩
abbrev cX11_isAhead : ByteArray := prog_1_method_31_code
def yX11_isAhead : MethodName := ⟨RX11, "isAhead", "(I)Z"⟩
abbrev cX11_isPart : ByteArray := prog_1_method_32_code
def yX11_isPart : MethodName := ⟨RX11, "isPart", "(I)Z"⟩
abbrev cX11_isPrice : ByteArray := prog_1_method_33_code
def yX11_isPrice : MethodName := ⟨RX11, "isPrice", "(I)Z"⟩
abbrev cX11_lowestTerms : ByteArray := prog_1_method_34_code
def yX11_lowestTerms : MethodName := ⟨RX11, "lowestTerms", "(JJI)J"⟩
abbrev cX11_greatestDivisor : ByteArray := prog_1_method_35_code
def yX11_greatestDivisor : MethodName := ⟨RX11, "greatestDivisor", "(JJ)J"⟩
abbrev cX11_newcomer : ByteArray := prog_1_method_36_code
def yX11_newcomer : MethodName := ⟨RX11, "newcomer", "(III)LEarlyGauge$Keeper;"⟩
abbrev cX11_isOfKind : ByteArray := prog_1_method_37_code
def yX11_isOfKind : MethodName := ⟨RX11, "isOfKind", "(LEarlyGauge$Keeper;I)Z"⟩
abbrev cX11_personOf : ByteArray := prog_1_method_38_code
def yX11_personOf : MethodName := ⟨RX11, "personOf", "(I)LEarlyGauge$Keeper;"⟩
abbrev cX11_countPeople : ByteArray := prog_1_method_39_code
def yX11_countPeople : MethodName := ⟨RX11, "countPeople", "()I"⟩
abbrev cX11_paidByAll : ByteArray := prog_1_method_40_code
def yX11_paidByAll : MethodName := ⟨RX11, "paidByAll", "()I"⟩
def RX12 : String := "EarlyGaugeModel"
def TX12 : u_T := fun k => match k with
  | 0 => ("EarlyGaugeModel", "isStation", "Z", false)
  | 1 => ("EarlyGaugeModel", "stations", "I", false)
  | 2 => ("EarlyGaugeModel", "tenths", "[I", true)
  | 3 => ("EarlyGaugeModel", "early", "I", false)
  | 4 => ("EarlyGaugeModel", "slip", "I", false)
  | 5 => ("EarlyGaugeModel", "dayBy", "I", false)
  | 6 => ("EarlyGaugeModel", "weatherNow", "I", false)
  | 7 => ("EarlyGaugeModel", "toldOf", "[I", true)
  | 8 => ("EarlyGaugeModel", "people", "I", false)
  | 9 => ("EarlyGaugeModel", "kindOf", "[I", true)
  | 10 => ("EarlyGaugeModel", "costOf", "[I", true)
  | 11 => ("EarlyGaugeModel", "lossOf", "[I", true)
  | 12 => ("EarlyGaugeModel", "paidOf", "[I", true)
  | 13 => ("EarlyGaugeModel", "days", "I", false)
  | 14 => ("EarlyGaugeModel", "bookWeather", "[I", true)
  | 15 => ("EarlyGaugeModel", "bookReading", "[I", true)
  | 16 => ("EarlyGaugeModel", "pageLength", "I", false)
  | 17 => ("EarlyGaugeModel", "page", "[B", true)
  | 18 => ("EarlyGaugeModel", "seedNow", "J", false)
  | 19 => ("EarlyGaugeModel", "savedDay", "I", false)
  | 20 => ("EarlyGaugeModel", "savedWeather", "I", false)
  | 21 => ("EarlyGaugeModel", "savedTold", "[I", true)
  | 22 => ("EarlyGaugeModel", "drawnOf", "[I", true)
  | 23 => ("EarlyGaugeModel", "drawnMany", "I", false)
  | 24 => ("EarlyGaugeModel", "slipped", "I", false)
  | 25 => ("EarlyGaugeModel", "isKept", "Z", false)
  | 26 => ("EarlyGaugeModel", "keptStation", "I", false)
  | 27 => ("EarlyGaugeModel", "keptDay", "I", false)
  | 28 => ("EarlyGaugeModel", "keptWeather", "I", false)
  | 29 => ("EarlyGaugeModel", "keptPeople", "I", false)
  | 30 => ("EarlyGaugeModel", "keptDays", "I", false)
  | 31 => ("EarlyGaugeModel", "keptTold", "[I", true)
  | 32 => ("EarlyGaugeModel", "keptPaid", "[I", true)
  | 33 => ("EarlyGaugeModel", "keptBookWeather", "[I", true)
  | 34 => ("EarlyGaugeModel", "keptBookReading", "[I", true)
  | _ => ("EarlyGaugeModel", "h", "J", false)
def tyX12 : Nat → FieldType := fun k => match k with
  | 0 => .boolean
  | 1 => .int
  | 2 => .array .int
  | 3 => .int
  | 4 => .int
  | 5 => .int
  | 6 => .int
  | 7 => .array .int
  | 8 => .int
  | 9 => .array .int
  | 10 => .array .int
  | 11 => .array .int
  | 12 => .array .int
  | 13 => .int
  | 14 => .array .int
  | 15 => .array .int
  | 16 => .int
  | 17 => .array .byte
  | 18 => .long
  | 19 => .int
  | 20 => .int
  | 21 => .array .int
  | 22 => .array .int
  | 23 => .int
  | 24 => .int
  | 25 => .boolean
  | 26 => .int
  | 27 => .int
  | 28 => .int
  | 29 => .int
  | 30 => .int
  | 31 => .array .int
  | 32 => .array .int
  | 33 => .array .int
  | 34 => .array .int
  | _ => .long
abbrev wsX120 : List Cond := u_ws RX12 TX12 36
theorem nmX12 : ∀ a, a < 36 → ∀ b, b < 36 → a ≠ b → (TX12 a).2.1 ≠ (TX12 b).2.1 := by decide +kernel
theorem tyX12_ok : ∀ k, k < 36 → parseFieldDescriptor (TX12 k).2.2.1 = some (tyX12 k) := by decide +kernel
abbrev cX12_init : ByteArray := prog_14_method_1_code
def yX12_init : MethodName := ⟨RX12, "<init>", "()V"⟩
abbrev cX12_within : ByteArray := prog_14_method_3_code
def yX12_within : MethodName := ⟨RX12, "within", "(III)Z"⟩
abbrev cX12_isWeather : ByteArray := prog_14_method_4_code
def yX12_isWeather : MethodName := ⟨RX12, "isWeather", "(I)Z"⟩
abbrev cX12_lowest : ByteArray := prog_14_method_5_code
def yX12_lowest : MethodName := ⟨RX12, "lowest", "(JJI)J"⟩
abbrev cX12_letter : ByteArray := prog_14_method_6_code
def yX12_letter : MethodName := ⟨RX12, "letter", "(I)I"⟩
abbrev cX12_blank : ByteArray := prog_14_method_7_code
def yX12_blank : MethodName := ⟨RX12, "blank", "()I"⟩
abbrev cX12_figure : ByteArray := prog_14_method_8_code
def yX12_figure : MethodName := ⟨RX12, "figure", "(I)I"⟩
abbrev cX12_isGood : ByteArray := prog_14_method_9_code
def yX12_isGood : MethodName := ⟨RX12, "isGood", "(I)Z"⟩
abbrev cX12_faultNow : ByteArray := prog_14_method_10_code
def yX12_faultNow : MethodName := ⟨RX12, "faultNow", "()I"⟩
abbrev cX12_fault : ByteArray := prog_14_method_11_code
def yX12_fault : MethodName := ⟨RX12, "fault", "()I"⟩
abbrev cX12_station : ByteArray := prog_14_method_12_code
def yX12_station : MethodName := ⟨RX12, "station", "()I"⟩
abbrev cX12_follows : ByteArray := prog_14_method_13_code
def yX12_follows : MethodName := ⟨RX12, "follows", "(II)I"⟩
abbrev cX12_weatherIn : ByteArray := prog_14_method_14_code
def yX12_weatherIn : MethodName := ⟨RX12, "weatherIn", "(II)I"⟩
abbrev cX12_tells : ByteArray := prog_14_method_15_code
def yX12_tells : MethodName := ⟨RX12, "tells", "(II)I"⟩
abbrev cX12_oddsOf : ByteArray := prog_14_method_16_code
def yX12_oddsOf : MethodName := ⟨RX12, "oddsOf", "(I)J"⟩
abbrev cX12_weightOf : ByteArray := prog_14_method_17_code
def yX12_weightOf : MethodName := ⟨RX12, "weightOf", "(II)J"⟩
abbrev cX12_toldMany : ByteArray := prog_14_method_18_code
def yX12_toldMany : MethodName := ⟨RX12, "toldMany", "()I"⟩
abbrev cX12_reading : ByteArray := prog_14_method_19_code
def yX12_reading : MethodName := ⟨RX12, "reading", "(I)I"⟩
abbrev cX12_told : ByteArray := prog_14_method_20_code
def yX12_told : MethodName := ⟨RX12, "told", "(I)I"⟩
abbrev cX12_covers : ByteArray := prog_14_method_21_code
def yX12_covers : MethodName := ⟨RX12, "covers", "(I)Z"⟩
abbrev cX12_goDay : ByteArray := prog_14_method_22_code
def yX12_goDay : MethodName := ⟨RX12, "goDay", "(IZ)I"⟩
abbrev cX12_day : ByteArray := prog_14_method_23_code
def yX12_day : MethodName := ⟨RX12, "day", "(I)I"⟩
abbrev cX12_isPerson : ByteArray := prog_14_method_24_code
def yX12_isPerson : MethodName := ⟨RX12, "isPerson", "(I)Z"⟩
abbrev cX12_person : ByteArray := prog_14_method_25_code
def yX12_person : MethodName := ⟨RX12, "person", "(III)I"⟩
abbrev cX12_personNow : ByteArray := prog_14_method_26_code
def yX12_personNow : MethodName := ⟨RX12, "personNow", "(II)I"⟩
abbrev cX12_about : ByteArray := prog_14_method_27_code
def yX12_about : MethodName := ⟨RX12, "about", "(II)I"⟩
abbrev cX12_as : ByteArray := prog_14_method_28_code
def yX12_as : MethodName := ⟨RX12, "as", "(II)I"⟩
abbrev cX12_likelyNow : ByteArray := prog_14_method_29_code
def yX12_likelyNow : MethodName := ⟨RX12, "likelyNow", "(III)J"⟩
abbrev cX12_likely : ByteArray := prog_14_method_30_code
def yX12_likely : MethodName := ⟨RX12, "likely", "(III)J"⟩
abbrev cX12_likeliestNow : ByteArray := prog_14_method_31_code
def yX12_likeliestNow : MethodName := ⟨RX12, "likeliestNow", "()I"⟩
abbrev cX12_likeliest : ByteArray := prog_14_method_32_code
def yX12_likeliest : MethodName := ⟨RX12, "likeliest", "()I"⟩
abbrev cX12_waysNow : ByteArray := prog_14_method_33_code
def yX12_waysNow : MethodName := ⟨RX12, "waysNow", "()I"⟩
abbrev cX12_ways : ByteArray := prog_14_method_34_code
def yX12_ways : MethodName := ⟨RX12, "ways", "()I"⟩
abbrev cX12_sureNow : ByteArray := prog_14_method_35_code
def yX12_sureNow : MethodName := ⟨RX12, "sureNow", "(I)I"⟩
abbrev cX12_sure : ByteArray := prog_14_method_36_code
def yX12_sure : MethodName := ⟨RX12, "sure", "(I)I"⟩
abbrev cX12_less : ByteArray := prog_14_method_37_code
def yX12_less : MethodName := ⟨RX12, "less", "(JJ)J"⟩
abbrev cX12_lookNow : ByteArray := prog_14_method_38_code
def yX12_lookNow : MethodName := ⟨RX12, "lookNow", "(III)J"⟩
abbrev cX12_look : ByteArray := prog_14_method_39_code
def yX12_look : MethodName := ⟨RX12, "look", "(III)J"⟩
abbrev cX12_book : ByteArray := prog_14_method_40_code
def yX12_book : MethodName := ⟨RX12, "book", "(II)I"⟩
abbrev cX12_forget : ByteArray := prog_14_method_41_code
def yX12_forget : MethodName := ⟨RX12, "forget", "()I"⟩
abbrev cX12_lookedAt : ByteArray := prog_14_method_42_code
def yX12_lookedAt : MethodName := ⟨RX12, "lookedAt", "(IZ)I"⟩
abbrev cX12_wrong : ByteArray := prog_14_method_43_code
def yX12_wrong : MethodName := ⟨RX12, "wrong", "(I)I"⟩
abbrev cX12_earliestNow : ByteArray := prog_14_method_44_code
def yX12_earliestNow : MethodName := ⟨RX12, "earliestNow", "()I"⟩
abbrev cX12_earliest : ByteArray := prog_14_method_45_code
def yX12_earliest : MethodName := ⟨RX12, "earliest", "()I"⟩
abbrev cX12_draw : ByteArray := prog_14_method_46_code
def yX12_draw : MethodName := ⟨RX12, "draw", "(I)I"⟩
abbrev cX12_drawDays : ByteArray := prog_14_method_47_code
def yX12_drawDays : MethodName := ⟨RX12, "drawDays", "()V"⟩
abbrev cX12_goSeeded : ByteArray := prog_14_method_48_code
def yX12_goSeeded : MethodName := ⟨RX12, "goSeeded", "()I"⟩
abbrev cX12_daysNow : ByteArray := prog_14_method_49_code
def yX12_daysNow : MethodName := ⟨RX12, "daysNow", "(III)I"⟩
abbrev cX12_days : ByteArray := prog_14_method_50_code
def yX12_days : MethodName := ⟨RX12, "days", "(III)I"⟩
abbrev cX12_image : ByteArray := prog_14_method_51_code
def yX12_image : MethodName := ⟨RX12, "image", "()I"⟩
abbrev cX12_restore : ByteArray := prog_14_method_52_code
def yX12_restore : MethodName := ⟨RX12, "restore", "()I"⟩
abbrev cX12_paidAll : ByteArray := prog_14_method_53_code
def yX12_paidAll : MethodName := ⟨RX12, "paidAll", "()I"⟩
abbrev cX12_howMany : ByteArray := prog_14_method_54_code
def yX12_howMany : MethodName := ⟨RX12, "howMany", "(I)I"⟩
abbrev cX12_count : ByteArray := prog_14_method_55_code
def yX12_count : MethodName := ⟨RX12, "count", "(I)I"⟩
abbrev cX12_mix : ByteArray := prog_14_method_56_code
def yX12_mix : MethodName := ⟨RX12, "mix", "(J)V"⟩
abbrev cX12_mixLikely : ByteArray := prog_14_method_57_code
def yX12_mixLikely : MethodName := ⟨RX12, "mixLikely", "(I)V"⟩
abbrev cX12_digest : ByteArray := prog_14_method_58_code
def yX12_digest : MethodName := ⟨RX12, "digest", "()J"⟩
def RJ9 : String := "java/lang/Math"
def TJ9 : u_T := fun k => match k with
  | _ => ("", "", "", false)
def tyJ9 : Nat → FieldType := fun k => match k with
  | _ => .int
abbrev wsJ90 : List Cond := u_ws RJ9 TJ9 0
theorem nmJ9 : ∀ a, a < 0 → ∀ b, b < 0 → a ≠ b → (TJ9 a).2.1 ≠ (TJ9 b).2.1 := by decide +kernel
theorem tyJ9_ok : ∀ k, k < 0 → parseFieldDescriptor (TJ9 k).2.2.1 = some (tyJ9 k) := by decide +kernel
abbrev cJ9_max_f86c9 : ByteArray := prog_15_method_66_code
def yJ9_max_f86c9 : MethodName := ⟨RJ9, "max", "(JJ)J"⟩
abbrev cJ9_min_f86c9 : ByteArray := prog_15_method_70_code
def yJ9_min_f86c9 : MethodName := ⟨RJ9, "min", "(JJ)J"⟩
def RL : String := "EarlyGaugeLaw"
abbrev cL_law : ByteArray := code
def yL_law : MethodName := ⟨RL, "law", "([I)Z"⟩
abbrev vwCl : List vw_C := [(RX0, TX0, 3), (RX1, TX1, 3), (RX2, TX2, 3), (RX3, TX3, 5), (RX4, TX4, 3), (RX5, TX5, 3), (RX6, TX6, 3), (RX7, TX7, 8), (RX8, TX8, 2), (RX9, TX9, 3), (RX10, TX10, 8), (RX11, TX11, 8), (RX12, TX12, 36)]

/-! a grid: six rows of sixty longs, made by one instruction -/
def mf (h : Nat) : Nat → Nat → Value
  | 0 => fun _ => .null
  | i + 1 => updV (mf h i) i (.ref (h + 1 + i))
theorem mf_at (h : Nat) : ∀ i j, mf h i j = if j < i then .ref (h + 1 + j) else .null
  | 0, j => by rw [if_neg (Nat.not_lt_zero j)]; rfl
  | i + 1, j => by
    show (if j = i then Value.ref (h + 1 + i) else mf h i j) = _
    by_cases c : j = i
    · rw [if_pos c, if_pos (by omega), c]
    · rw [if_neg c, mf_at h i j]
      by_cases c2 : j < i
      · rw [if_pos c2, if_pos (by omega)]
      · rw [if_neg c2, if_neg (by omega)]
def mO (cA : ClassId) (h i : Nat) : Cell := arrV cA 6 (mf h i)
def mN (cB : ClassId) : Cell := arrV cB 60 (fun _ => .long 0)
def mS (T : State) (cA cB : ClassId) : Nat → State
  | 0 => T.pushCell (mO cA T.heap.size 0)
  | i + 1 => ((mS T cA cB i).pushCell (mN cB)).setCell T.heap.size (mO cA T.heap.size (i + 1))
theorem mO_step (cA : ClassId) (h i : Nat) : (mO cA h i).setSlot i (.ref (h + 1 + i)) = mO cA h (i + 1) := arrV_store _ _ _ _ _
theorem mS_f (T : State) (cA cB : ClassId) : ∀ i, (mS T cA cB i).heap.size = T.heap.size + 1 + i ∧ (mS T cA cB i).heap[T.heap.size]? = some (mO cA T.heap.size i) ∧ (mS T cA cB i).vm = T.vm ∧ (mS T cA cB i).slotsUsed = T.slotsUsed + 6 + 60 * i
  | 0 => ⟨by simp [mS], by simp [mS], rfl, by simp [mS, mO, arrV_size]⟩
  | i + 1 => by
    obtain ⟨a, b, c, d⟩ := mS_f T cA cB i
    have hlt : T.heap.size < (mS T cA cB i).heap.size := by omega
    have hb : ((mS T cA cB i).pushCell (mN cB)).heap[T.heap.size]? = some (mO cA T.heap.size i) := by rw [State.heap_pushCell_of_lt (h := hlt)]; exact b
    refine ⟨?_, State.heap_setCell_self hb, by simp [mS, c], ?_⟩
    · simp [mS, State.setCell, a]; omega
    · simp [mS, d, mN, arrV_size]; omega
theorem mS_top (T : State) (f : JFrame) (cA cB : ClassId) : ∀ i, mS (T.setTop f) cA cB i = (mS T cA cB i).setTop f
  | 0 => rfl
  | i + 1 => by simp only [mS, mS_top T f cA cB i, State.heap_setTop, State.pushCell_setTop, State.setCell_setTop]
theorem mS_old (T : State) (cA cB : ClassId) {a : Nat} (ha : a < T.heap.size) : ∀ i, (mS T cA cB i).heap[a]? = T.heap[a]?
  | 0 => State.heap_pushCell_of_lt _ _ ha
  | i + 1 => by
    have f1 := (mS_f T cA cB i).1
    have hlt : a < (mS T cA cB i).heap.size := by rw [f1]; omega
    show (((mS T cA cB i).pushCell (mN cB)).setCell T.heap.size _).heap[a]? = _
    rw [State.heap_setCell_other (Nat.ne_of_gt ha), State.heap_pushCell_of_lt (h := hlt)]
    exact mS_old T cA cB ha i
theorem mS_row (T : State) (cA cB : ClassId) : ∀ i j, j < i → (mS T cA cB i).heap[T.heap.size + 1 + j]? = some (mN cB)
  | 0, _, h => absurd h (Nat.not_lt_zero _)
  | i + 1, j, h => by
    have f1 := (mS_f T cA cB i).1
    show (((mS T cA cB i).pushCell (mN cB)).setCell T.heap.size _).heap[T.heap.size + 1 + j]? = _
    rw [State.heap_setCell_other (show T.heap.size ≠ T.heap.size + 1 + j by omega)]
    by_cases c : j < i
    · have hlt : T.heap.size + 1 + j < (mS T cA cB i).heap.size := by rw [f1]; omega
      rw [State.heap_pushCell_of_lt (h := hlt)]
      exact mS_row T cA cB i j c
    · rw [show T.heap.size + 1 + j = (mS T cA cB i).heap.size by rw [f1]; omega]
      exact State.heap_pushCell_size _ _
section Multi
variable {E : CtlPost} {e : Env} {d : Bool} {acts : List Action} {s : State}
/-- the machine's own making of one array, all default -/
theorem wp_nA {c comp : ClassId} {k : Class} {ty : FieldType} {len : Nat} {v : Value} (hk : s.vm.classes[c]? = some k) (hkind : k.kind = .array comp ty) (hl : ¬ len > e.platform.arrayLengthLimit) (hb : ¬ len * componentBytes ty > e.platform.maxHeapBytes) (hf : fits ty v = true) (hd : v.isDefault = true) {Q : Addr → Pre} (h1 : s.heap.size < e.platform.maxCells) (h2 : s.slotsUsed + len ≤ e.platform.maxSlots) (hq : Q s.heap.size d acts (s.pushCell (arrV c len (fun _ => v)))) : wp (Jvm.newArray c len v) Q E e d acts s := by
  rw [← arrV_new] at hq
  have ha : allocActs (Array.replicate len v) s.heap.size acts = acts := by
    unfold allocActs
    rw [if_pos (by rw [Array.all_replicate]; split <;> simp [hd])]
  have hs : ∀ i x, (Array.replicate len v)[i]? = some x → s.fitsSlot c .none i x = true := fun i x hx => by
    rw [Array.getElem?_replicate] at hx
    split at hx
    · cases hx; simp [State.fitsSlot, State.slotType?, hk, hkind, hf]
    · cases hx
  simp only [Jvm.newArray, Jvm.arrayFits, wp_bind', W.ask, W.ite, hl, if_false, wp_pure', W.theClass, hk, hkind, hb, W.alloc, W.stop, Option.some.injEq, exists_eq_left', Array.size_replicate, ha]
  rw [if_neg (by omega)]
  exact ⟨h1, h2, hs, hq⟩
theorem wp_row {cB cc : ClassId} {kB : Class} (hB : s.vm.classes[cB]? = some kB) (hkB : kB.kind = .array cc .long) (hl : ¬ 60 > e.platform.arrayLengthLimit) (hb : ¬ 60 * componentBytes .long > e.platform.maxHeapBytes) (h1 : s.heap.size < e.platform.maxCells) (h2 : s.slotsUsed + 60 ≤ e.platform.maxSlots) {Q : Addr → Pre} (hq : Q s.heap.size d acts (s.pushCell (mN cB))) : wp (Op.multianewarray.make cB [60]) Q E e d acts s := by
  rw [Op.multianewarray.make]
  simp only [wp_bind', W.ite, show ¬ ((60 : Int32) < 0) by decide, if_false, wp_pure', W.theClass, hB, hkB, Option.some.injEq, exists_eq_left']
  exact wp_nA hB hkB hl hb rfl rfl h1 h2 hq
theorem wp_grid {cA cB cc : ClassId} {kA kB : Class} (hA : s.vm.classes[cA]? = some kA) (hkA : kA.kind = .array cB (.array .long)) (hB : s.vm.classes[cB]? = some kB) (hkB : kB.kind = .array cc .long) (hl6 : ¬ 6 > e.platform.arrayLengthLimit) (hb6 : ¬ 6 * componentBytes (.array .long) > e.platform.maxHeapBytes) (hl : ¬ 60 > e.platform.arrayLengthLimit) (hb : ¬ 60 * componentBytes .long > e.platform.maxHeapBytes) (h1 : s.heap.size + 7 ≤ e.platform.maxCells) (h2 : s.slotsUsed + 366 ≤ e.platform.maxSlots) {Q : Addr → Pre} (hq : ∀ d' acts', Q s.heap.size d' acts' (mS s cA cB 6)) : wp (Op.multianewarray.make cA [6, 60]) Q E e d acts s := by
  rw [Op.multianewarray.make]
  simp only [wp_bind', W.ite, show ¬ ((6 : Int32) < 0) by decide, if_false, wp_pure', W.theClass, hA, hkA, Option.some.injEq, exists_eq_left']
  refine wp_nA (len := 6) hA hkA hl6 hb6 rfl rfl (by omega) (by omega) ?_
  simp only [show ([60] : List Int32).find? (· < 0) = none by decide]
  rw [ite_self, wp_bind', Std.Legacy.Range.forIn_eq_forIn_range']
  show wp (forIn (List.range' 0 6 1) PUnit.unit _) _ E e d acts _
  refine wp_forIn_inv (fun rest s' => ∃ i, i ≤ 6 ∧ rest = List.range' i (6 - i) ∧ s' = mS s cA cB i) _ _ ⟨0, Nat.zero_le _, rfl, rfl⟩ ?_ ?_
  · rintro x rest s' d' acts' Q' ⟨i, hi, hr, rfl⟩ hn
    have hi6 : i < 6 := by
      by_cases c : i < 6
      · exact c
      · rw [show 6 - i = 0 by omega] at hr; cases hr
    rw [show 6 - i = (6 - (i + 1)) + 1 by omega, List.range'_succ] at hr
    obtain ⟨rfl, rfl⟩ := List.cons.inj hr
    obtain ⟨f1, f2, f3, f4⟩ := mS_f s cA cB x
    simp only [wp_bind']
    refine wp_row (by rw [f3]; exact hB) hkB hl hb (by rw [f1]; omega) (by rw [f4]; omega) ?_
    simp only [wp_bind', W.writeLoc, wp_pure']
    have hlt : s.heap.size < (mS s cA cB x).heap.size := by rw [f1]; omega
    refine ⟨mO cA s.heap.size x, by rw [State.heap_pushCell_of_lt (h := hlt)]; exact f2, by simp [mO, arrV], by rw [mO, arrV_size]; exact hi6, ?_, hn _ _ _ ⟨x + 1, hi6, rfl, ?_⟩⟩
    · simp [mO, arrV, State.fitsSlot, State.slotType?, f3, hA, hkA]
      rfl
    · show _ = ((mS s cA cB x).pushCell (mN cB)).setCell s.heap.size (mO cA s.heap.size (x + 1))
      rw [f1, ← mO_step]
  · rintro s' d' acts' ⟨i, hi, hr, rfl⟩
    have hi6 : i = 6 := by
      by_cases c : i < 6
      · rw [show 6 - i = (6 - (i + 1)) + 1 by omega, List.range'_succ] at hr; cases hr
      · omega
    subst hi6
    simp only [wp_pure']
    exact hq _ _
end Multi
section MultiW
variable {p : Program} {l : Launch} {e : Env} {R : Room} {s : State} {m : MethodId} {args : Array Value} {below : List Frame} {meth : Method} {c : Code} {T : State} {H : Heap} {locs : List Loc} {cells slots : Nat} {Q : State → Prop}
theorem mS_X (X : Stand p l e R s m args below meth c T locs cells slots) (cA cB : ClassId) : ∀ i, Stand p l e R s m args below meth c (mS T cA cB i) (locs ++ (List.range i).map fun j => ⟨T.heap.size, j⟩) (cells + 1 + i) (slots + 6 + 60 * i)
  | 0 => by
    have h := X.pushed (mO cA T.heap.size 0)
    rw [show (mO cA T.heap.size 0).slots.size = 6 from arrV_size _ _ _] at h
    simpa [mS] using h
  | i + 1 => by
    have Xi := mS_X X cA cB i
    obtain ⟨f1, f2, f3, f4⟩ := mS_f T cA cB i
    have hlt : T.heap.size < (mS T cA cB i).heap.size := by rw [f1]; omega
    have hc : ((mS T cA cB i).pushCell (mN cB)).heap[T.heap.size]? = some (mO cA T.heap.size i) := by rw [State.heap_pushCell_of_lt (h := hlt)]; exact f2
    have h := (Xi.pushed (mN cB)).stored hc i (.ref (T.heap.size + 1 + i))
    rw [show (mN cB).slots.size = 60 from arrV_size _ _ _, mO_step] at h
    have e2 : (locs ++ (List.range (i + 1)).map fun j => (⟨T.heap.size, j⟩ : Loc)) = (locs ++ (List.range i).map fun j => (⟨T.heap.size, j⟩ : Loc)) ++ [⟨T.heap.size, i⟩] := by simp [List.range_succ, List.append_assoc]
    rw [e2, show slots + 6 + 60 * (i + 1) = slots + 6 + 60 * i + 60 by omega]
    exact h
theorem W_multi {cc : ByteArray} (hexec : p.tables.exec = Jvm.exec) (hb : c.code = cc) {own : String} {index : Nat} (hown : s.vm.findClass own = some m.cls) (hcl : (Cond.classLink own index "[[J").before args s = true) (hA2 : AO2 s) (harr : (Cond.arrayClass .long).before args s = true) {pc : Nat} {ls : Array Slot} {rest : List Value} (hdg : decode cc pc = .ok (.multianewarray index 2, 4)) (hc : cells + 7 ≤ R.cells) (hs : slots + 366 ≤ R.slots)
    (kk : ∀ (cA cB : ClassId) (H' : Heap), s.vm.findClass "[[J" = some cA → s.vm.findClass "[J" = some cB → H'.size = H.size + 7 → (∀ q, q < H.size → H'[q]? = H[q]?) → H'[H.size]? = some (arrV cA 6 (mf H.size 6)) → (∀ j, j < 6 → H'[H.size + 1 + j]? = some (arrV cB 60 (fun _ => .long 0))) → W p l e R s m args below meth c H' locs (cells + 7) (slots + 366) Q (F0 m (pc + 4) ls (.ref H.size :: rest))) : W p l e R s m args below meth c H locs cells slots Q (F0 m pc ls (.int 60 :: .int 6 :: rest)) := by
  intro T hT X
  subst hT; subst hb
  have hpl : e.platform.magicAccessors = ({} : Platform).magicAccessors := by rw [X.admits.platform]
  obtain ⟨cB, cA, kA, hfB, hA, hkA, hfA⟩ := hA2
  obtain ⟨cB2, kB, cc, hfB2, hB, hkB⟩ := Cond.arrayClass_spec harr
  cases hfB2.symm.trans hfB
  obtain ⟨c0, hfc0, hcl0⟩ := Cond.classLink_spec hown hcl e.platform hpl
  cases hfc0.symm.trans hfA
  obtain ⟨hg1, hw1, -⟩ := State.classEntry (e := e) X.warmed hcl0
  generalize T.vm.noted m.cls index (.cls cA) = vm1 at hg1 hw1
  obtain ⟨kA1, hA1, eA⟩ := hw1.alike.2.2 _ _ hA
  obtain ⟨kB1, hB1, eB⟩ := hw1.alike.2.2 _ _ hB
  have X1 := X.noted hw1
  have X6 := mS_X X1 cA cB 6
  have X7 := X6.dropFresh (fun x hx => by
    obtain ⟨j, -, rfl⟩ := List.mem_map.mp hx
    exact X.heapGrown)
  obtain ⟨f1, f2, f3, f4⟩ := mS_f (T.setVm vm1) cA cB 6
  obtain ⟨hr1, hr2⟩ := X.roomAbove hc hs
  obtain ⟨t, a1, b1⟩ := kk cA cB (mS (T.setVm vm1) cA cB 6).heap hfA hfB f1 (fun q hq => mS_old (T.setVm vm1) cA cB hq 6) f2 (fun j hj => mS_row (T.setVm vm1) cA cB 6 j hj) (mS (T.setVm vm1) cA cB 6) rfl X7
  refine ⟨t, ?_, b1⟩
  have hlim : e.platform.arrayLengthLimit = _ := Launch.admits_arrayLengthLimit X.admits
  have hby : e.platform.maxHeapBytes = _ := Launch.admits_maxHeapBytes X.admits
  jvm_step X.here [hexec, hdg]
  simp only [Op.multianewarray.sem, wp_bind', W.resolveClassAt_links (State.method?_setTop (F0 m pc ls (.int 60 :: .int 6 :: rest)) X.here.top) hg1]
  rw [W.popN, if_neg (by decide)]
  refine ⟨F0 m pc ls (.int 60 :: .int 6 :: rest), State.topJava?_setTop' (s := T.setVm vm1) _ X.here.top, [.int 6, .int 60], rest, rfl, rfl, ?_⟩
  simp only [List.mapM_cons, List.mapM_nil, wp_bind', wp_pure']
  refine wp_grid (kA := kA1) (kB := kB1) (cB := cB) (cc := cc) hA1 (by rw [eA]; exact hkA) hB1 (by rw [eB]; exact hkB) (by rw [hlim]; decide) (by rw [hby]; decide) (by rw [hlim]; decide) (by rw [hby]; decide) (by show T.heap.size + 7 ≤ _; omega) (by show T.slotsUsed + 366 ≤ _; omega) (fun d' acts' => ?_)
  have eS : ((T.setTop (F0 m pc ls (.int 60 :: .int 6 :: rest))).setVm vm1).setTop { F0 m pc ls (.int 60 :: .int 6 :: rest) with stack := rest } = (T.setVm vm1).setTop { F0 m pc ls (.int 60 :: .int 6 :: rest) with stack := rest } := by
    show ((T.setVm vm1).setTop _).setTop _ = _
    rw [State.setTop_setTop]
  rw [eS, mS_top]
  simp only [wp_bind', W.mark, W.pushRef, State.topJava?_setTop' _ X7.here.top, Option.some.injEq, exists_eq_left', State.setTop_setTop, State.heap_setTop]
  intro acts2
  simp [jvm, X7.here.top]
  exact a1
end MultiW

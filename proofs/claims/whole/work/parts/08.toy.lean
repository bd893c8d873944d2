def tbU : List Cond := lw_tbl.filter goodWord
theorem tbm {w : Cond} (i : Nat) (h : lw_tbl[i]? = some w) (hg : goodWord w = true) : w ∈ tbU := List.mem_filter.mpr ⟨List.mem_of_getElem? h, hg⟩
/-! The store of this system behind its constructors: 73 cells of a fixed shape; what changes is M (ints) and L (longs). -/
abbrev MI : Type := Nat → Nat → Int32
abbrev ML : Type := Nat → Nat → Int64
abbrev GC : Type := Launch × va_G × (ClassId × ClassId × ClassId × ClassId) × (Nat → Nat) × Nat
abbrev gL (g : GC) : Launch := g.1
abbrev gD (g : GC) : va_G := g.2.1
abbrev gI (g : GC) : ClassId := g.2.2.1.1
abbrev gJ (g : GC) : ClassId := g.2.2.1.2.1
abbrev gT (g : GC) : ClassId := g.2.2.1.2.2.1
abbrev gR (g : GC) : ClassId := g.2.2.1.2.2.2
def ga (g : GC) (i : Nat) : Nat := g.2.2.2.1 i
abbrev gW (g : GC) : Nat := g.2.2.2.2
abbrev rf (g : GC) (i : Nat) : Value := .ref (ga g i)
abbrev gTys (g : GC) : List (ClassId × FieldType) := [(gI g, .int), (gJ g, .long), (gT g, .object "WeighedLots$Tape"), (gR g, .array .long)]
/-- an object: its class among vwCl, its fields (none: an int; some j: the cell j); an array: its kind (0 ints, 1 longs, 2 tapes, 3 rows of longs), its length, its cells -/
abbrev Sh : Type := (Nat × List (Option Nat)) ⊕ (Nat × Nat × List Nat)
def shL : List Sh := [.inl (8, [some 1, some 12, none, some 23, some 28, some 41, some 46, some 50, some 52]), .inl (3, [none, none, none, some 2, none, some 3, some 6, some 9]), .inr (0, 4, []), .inl (1, [some 4, some 5, none]), .inr (0, 6, []), .inr (0, 6, []), .inl (1, [some 7, some 8, none]), .inr (0, 8, []), .inr (0, 8, []), .inl (1, [some 10, some 11, none]), .inr (0, 8, []), .inr (0, 8, []), .inl (3, [none, none, none, some 13, none, some 14, some 17, some 20]), .inr (0, 4, []), .inl (1, [some 15, some 16, none]), .inr (0, 6, []), .inr (0, 6, []), .inl (1, [some 18, some 19, none]), .inr (0, 8, []), .inr (0, 8, []), .inl (1, [some 21, some 22, none]), .inr (0, 8, []), .inr (0, 8, []), .inl (4, [some 24, none, none, some 25, some 26, some 27, none]), .inr (0, 100, []), .inr (0, 12, []), .inr (0, 12, []), .inr (0, 12, []), .inr (2, 6, [29, 31, 33, 35, 37, 39]), .inl (5, [none, none, some 30]), .inr (1, 60, []), .inl (5, [none, none, some 32]), .inr (1, 60, []), .inl (5, [none, none, some 34]), .inr (1, 60, []), .inl (5, [none, none, some 36]), .inr (1, 60, []), .inl (5, [none, none, some 38]), .inr (1, 60, []), .inl (5, [none, none, some 40]), .inr (1, 60, []), .inl (2, [some 42, none, some 43, some 44, some 45, none, none, none]), .inr (0, 4, []), .inr (0, 4, []), .inr (0, 4, []), .inr (0, 4, []), .inl (0, [some 47, some 48, some 49, none]), .inr (0, 2048, []), .inr (0, 768, []), .inr (0, 768, []), .inl (6, [none, some 51]), .inr (0, 4, []), .inl (7, [some 53]), .inr (0, 729, []), .inl (9, [some 55, some 56, none, some 57, some 58, none, some 59, some 60, some 61, none, none, some 62, none, none, some 63, some 64, some 65, some 66]), .inr (0, 55, []), .inr (0, 55, []), .inr (0, 4, []), .inr (0, 4, []), .inr (0, 65536, []), .inr (0, 65536, []), .inr (0, 100, []), .inr (0, 4, []), .inr (0, 6, []), .inr (0, 6, []), .inr (3, 6, [67, 68, 69, 70, 71, 72]), .inr (1, 60, []), .inr (1, 60, []), .inr (1, 60, []), .inr (1, 60, []), .inr (1, 60, []), .inr (1, 60, []), .inr (1, 60, [])]
def shp (i : Nat) : Option Sh := shL[i]?
def fldV (g : GC) (m : Nat → Int32) : Nat → List (Option Nat) → List Value
  | _, [] => []
  | k, none :: r => .int (m k) :: fldV g m (k + 1) r
  | k, some j :: r => .ref (ga g j) :: fldV g m (k + 1) r
def cellE (g : GC) (M : MI) (L : ML) (i : Nat) : Sh → va_E
  | .inl (ci, fl) => .inr (ci, fldV g (M i) 0 fl)
  | .inr (0, n, _) => .inl (gI g, n, .inl (M i))
  | .inr (1, n, _) => .inl (gJ g, n, .inr (.inl (L i)))
  | .inr (2, n, tg) => .inl (gT g, n, .inr (.inr (.inr (.inr (fun k => (tg[k]?).map (ga g))))))
  | .inr (_, n, tg) => .inl (gR g, n, .inr (.inr (.inr (.inr (fun k => (tg[k]?).map (ga g))))))
def wldF (g : GC) (M : MI) (L : ML) : Nat → List Sh → va_W
  | _, [] => []
  | i, s :: r => (ga g i, cellE g M L i s) :: wldF g M L (i + 1) r
def wld (g : GC) (M : MI) (L : ML) : va_W := wldF g M L 0 shL
def Aad (g : GC) : Nat → Prop := fun q => ∃ i, i < 73 ∧ ga g i = q
def adOK (g : GC) : Prop := ∀ i j, i < 73 → j < 73 → ga g i = ga g j → i = j
/-- a row of ints (longs) put in another's place -/
def sr (M : MI) (i : Nat) (f : Nat → Int32) : MI := fun j => if j = i then f else M j
def srL (L : ML) (i : Nat) (f : Nat → Int64) : ML := fun j => if j = i then f else L j
theorem sr_eq (M : MI) (i : Nat) (f : Nat → Int32) : sr M i f i = f := if_pos rfl
theorem sr_ne {M : MI} {i j : Nat} {f : Nat → Int32} (h : j ≠ i) : sr M i f j = M j := if_neg h
theorem srL_eq (L : ML) (i : Nat) (f : Nat → Int64) : srL L i f i = f := if_pos rfl
theorem srL_ne {L : ML} {i j : Nat} {f : Nat → Int64} (h : j ≠ i) : srL L i f j = L j := if_neg h
/-- one place of a row -/
def s1 (M : MI) (i k : Nat) (x : Int32) : MI := sr M i (upd (M i) k x)
def s1L (L : ML) (i k : Nat) (x : Int64) : ML := srL L i (vp_updL (L i) k x)
theorem s1_at (M : MI) (i k : Nat) (x : Int32) (j q : Nat) : s1 M i k x j q = if j = i ∧ q = k then x else M j q := by
  unfold s1 sr upd
  by_cases h : j = i
  · subst h
    by_cases h2 : q = k <;> simp [h2]
  · simp [h]
theorem s1L_at (L : ML) (i k : Nat) (x : Int64) (j q : Nat) : s1L L i k x j q = if j = i ∧ q = k then x else L j q := by
  unfold s1L srL vp_updL
  by_cases h : j = i
  · subst h
    by_cases h2 : q = k <;> simp [h2]
  · simp [h]
theorem wldF_get (g : GC) (M : MI) (L : ML) : ∀ (l : List Sh) (b k : Nat), (wldF g M L b l)[k]? = (l[k]?).map (fun s => (ga g (b + k), cellE g M L (b + k) s))
  | [], b, k => by simp [wldF]
  | s :: r, b, 0 => by simp [wldF]
  | s :: r, b, k + 1 => by
    have h := wldF_get g M L r (b + 1) k
    have e : b + 1 + k = b + (k + 1) := by omega
    simp only [wldF, List.getElem?_cons_succ]
    rw [h, e]
theorem wld_get {g : GC} {M : MI} {L : ML} {i : Nat} {s : Sh} (h : shp i = some s) : (wld g M L)[i]? = some (ga g i, cellE g M L i s) := by
  have h1 := wldF_get g M L shL 0 i
  unfold shp at h
  rw [h] at h1
  simpa [wld] using h1
theorem shp_lt {i : Nat} {s : Sh} (h : shp i = some s) : i < 73 := by
  have h2 := (List.getElem?_eq_some_iff.mp h).1
  have e : shL.length = 73 := rfl
  omega
theorem wld_inv {g : GC} {M : MI} {L : ML} {i : Nat} {q : Nat × va_E} (h : (wld g M L)[i]? = some q) : i < 73 ∧ q.1 = ga g i ∧ ∃ s, shp i = some s ∧ q.2 = cellE g M L i s := by
  have h1 := wldF_get g M L shL 0 i
  unfold wld at h
  rw [h] at h1
  cases hs : shL[i]? with
  | none => rw [hs] at h1; simp at h1
  | some s =>
    rw [hs] at h1
    simp at h1
    subst h1
    exact ⟨shp_lt hs, rfl, s, hs, rfl⟩
theorem wld_D {g : GC} (h : adOK g) (M : MI) (L : ML) : va_D (Aad g) (wld g M L) := by
  refine ⟨fun i j p q hi hj e => ?_, fun k q hk => ?_⟩
  · obtain ⟨a1, a2, -⟩ := wld_inv hi
    obtain ⟨b1, b2, -⟩ := wld_inv hj
    exact h i j a1 b1 (by rw [← a2, ← b2]; exact e)
  · obtain ⟨a1, a2, -⟩ := wld_inv hk
    exact ⟨k, a1, a2.symm⟩
theorem cellE_congr {g : GC} {M M' : MI} {L L' : ML} {i : Nat} (h : M i = M' i) (h2 : L i = L' i) (s : Sh) : cellE g M L i s = cellE g M' L' i s := by
  rcases s with ⟨ci, fl⟩ | ⟨k, n, tg⟩
  · simp only [cellE, h]
  · unfold cellE
    split <;> simp_all
theorem wld_set {g : GC} {M : MI} {L : ML} {i : Nat} {s : Sh} (f : Nat → Int32) (h : shp i = some s) : (wld g M L).set i (ga g i, cellE g (sr M i f) L i s) = wld g (sr M i f) L := by
  apply List.ext_getElem?
  intro j
  rw [List.getElem?_set]
  by_cases e : i = j
  · subst e
    have hl : i < (wld g M L).length := (List.getElem?_eq_some_iff.mp (wld_get h)).1
    rw [if_pos rfl, if_pos hl, wld_get h]
  · rw [if_neg e]
    unfold wld
    rw [wldF_get, wldF_get]
    cases shL[j]? with
    | none => rfl
    | some s' =>
      simp only [Option.map_some, Nat.zero_add]
      rw [cellE_congr (M := M) (M' := sr M i f) (sr_ne (fun q => e q.symm)).symm rfl]
theorem wld_setL {g : GC} {M : MI} {L : ML} {i : Nat} {s : Sh} (f : Nat → Int64) (h : shp i = some s) : (wld g M L).set i (ga g i, cellE g M (srL L i f) i s) = wld g M (srL L i f) := by
  apply List.ext_getElem?
  intro j
  rw [List.getElem?_set]
  by_cases e : i = j
  · subst e
    have hl : i < (wld g M L).length := (List.getElem?_eq_some_iff.mp (wld_get h)).1
    rw [if_pos rfl, if_pos hl, wld_get h]
  · rw [if_neg e]
    unfold wld
    rw [wldF_get, wldF_get]
    cases shL[j]? with
    | none => rfl
    | some s' =>
      simp only [Option.map_some, Nat.zero_add]
      rw [cellE_congr (L := L) (L' := srL L i f) rfl (srL_ne (fun q => e q.symm)).symm]
theorem fldV_get (g : GC) (m : Nat → Int32) : ∀ (fl : List (Option Nat)) (b k : Nat), (fldV g m b fl)[k]? = (fl[k]?).map (fun f => match f with | none => .int (m (b + k)) | some j => .ref (ga g j))
  | [], b, k => by simp [fldV]
  | none :: r, b, 0 => by simp [fldV]
  | some j :: r, b, 0 => by simp [fldV]
  | none :: r, b, k + 1 => by
    have h := fldV_get g m r (b + 1) k
    have e : b + 1 + k = b + (k + 1) := by omega
    simp only [fldV, List.getElem?_cons_succ]
    rw [h, e]
  | some j :: r, b, k + 1 => by
    have h := fldV_get g m r (b + 1) k
    have e : b + 1 + k = b + (k + 1) := by omega
    simp only [fldV, List.getElem?_cons_succ]
    rw [h, e]
theorem fldV_len (g : GC) (m : Nat → Int32) : ∀ (fl : List (Option Nat)) (b : Nat), (fldV g m b fl).length = fl.length
  | [], b => rfl
  | none :: r, b => by simp [fldV, fldV_len g m r (b + 1)]
  | some j :: r, b => by simp [fldV, fldV_len g m r (b + 1)]
theorem fldV_congr (g : GC) {m m' : Nat → Int32} : ∀ (fl : List (Option Nat)) (b : Nat), (∀ k, b ≤ k → m k = m' k) → fldV g m b fl = fldV g m' b fl
  | [], b, _ => rfl
  | none :: r, b, h => by simp [fldV, h b (Nat.le_refl b), fldV_congr g r (b + 1) (fun k hk => h k (by omega))]
  | some j :: r, b, h => by simp [fldV, fldV_congr g r (b + 1) (fun k hk => h k (by omega))]
theorem fldV_set (g : GC) (m : Nat → Int32) (x : Int32) : ∀ (fl : List (Option Nat)) (b k : Nat), fl[k]? = some none → (fldV g m b fl).set k (.int x) = fldV g (upd m (b + k) x) b fl
  | [], b, k, h => by simp at h
  | none :: r, b, 0, _ => by
    have h := fldV_congr g (m := m) (m' := upd m b x) r (b + 1) (fun k hk => by unfold upd; rw [if_neg (by omega)])
    have e : upd m b x b = x := if_pos rfl
    simp only [fldV, List.set_cons_zero, Nat.add_zero, e]
    rw [h]
  | some j :: r, b, 0, h => by simp at h
  | none :: r, b, k + 1, h => by
    have h1 := fldV_set g m x r (b + 1) k (by simpa using h)
    have e : b + 1 + k = b + (k + 1) := by omega
    have e2 : upd m (b + (k + 1)) x b = m b := if_neg (by omega)
    simp only [fldV, List.set_cons_succ, e2]
    rw [h1, e]
  | some j :: r, b, k + 1, h => by
    have h1 := fldV_set g m x r (b + 1) k (by simpa using h)
    have e : b + 1 + k = b + (k + 1) := by omega
    simp only [fldV, List.set_cons_succ]
    rw [h1, e]
/-! the locals, by their places -/
def PL (ls : Array Slot) (nL : Nat) (l : List (Option Value)) : Prop := ls.size = nL ∧ lv_wf ls ∧ ∀ (i : Nat) (v : Value), l[i]? = some (some v) → ls[i]? = some (.val v)
def alF : Nat → List (Option Value) → List (Nat × Value)
  | _, [] => []
  | i, none :: r => alF (i + 1) r
  | i, some v :: r => (i, v) :: alF (i + 1) r
theorem alF_mem : ∀ (l : List (Option Value)) (b j : Nat) (v : Value), (j, v) ∈ alF b l ↔ b ≤ j ∧ l[j - b]? = some (some v)
  | [], b, j, v => by simp [alF]
  | none :: r, b, j, v => by
    have h := alF_mem r (b + 1) j v
    simp only [alF, h]
    constructor
    · rintro ⟨h1, h2⟩
      have e : j - b = (j - (b + 1)) + 1 := by omega
      exact ⟨by omega, by rw [e, List.getElem?_cons_succ]; exact h2⟩
    · rintro ⟨h1, h2⟩
      rcases Nat.eq_or_lt_of_le h1 with q | q
      · subst q
        simp at h2
      · have e : j - b = (j - (b + 1)) + 1 := by omega
        rw [e, List.getElem?_cons_succ] at h2
        exact ⟨q, h2⟩
  | some w :: r, b, j, v => by
    have h := alF_mem r (b + 1) j v
    simp only [alF, List.mem_cons, Prod.mk.injEq, h]
    constructor
    · rintro (⟨h1, h2⟩ | ⟨h1, h2⟩)
      · subst h1; subst h2
        simp
      · have e : j - b = (j - (b + 1)) + 1 := by omega
        exact ⟨by omega, by rw [e, List.getElem?_cons_succ]; exact h2⟩
    · rintro ⟨h1, h2⟩
      rcases Nat.eq_or_lt_of_le h1 with q | q
      · subst q
        simp at h2
        exact Or.inl ⟨rfl, h2.symm⟩
      · have e : j - b = (j - (b + 1)) + 1 := by omega
        rw [e, List.getElem?_cons_succ] at h2
        exact Or.inr ⟨q, h2⟩
theorem PL.has {ls : Array Slot} {nL : Nat} {l : List (Option Value)} (h : PL ls nL l) : lv_has ls nL (alF 0 l) := by
  refine ⟨h.1, h.2.1, fun q hq => ?_⟩
  have h1 := (alF_mem l 0 q.1 q.2).mp hq
  exact h.2.2 q.1 q.2 (by simpa using h1.2)
/-- what a store of one slot at i leaves of the locals -/
def keepsAt (l l' : List (Option Value)) (i : Nat) (v : Value) : Prop := ∀ (j : Nat) (w : Value), l'[j]? = some (some w) → (j = i ∧ w = v) ∨ (j ≠ i ∧ l[j]? = some (some w) ∧ ¬ (j + 1 = i ∧ w.category = 2))
def keepsAt2 (l l' : List (Option Value)) (i : Nat) (v : Value) : Prop := ∀ (j : Nat) (w : Value), l'[j]? = some (some w) → (j = i ∧ w = v) ∨ (j ≠ i ∧ j ≠ i + 1 ∧ l[j]? = some (some w) ∧ ¬ (j + 1 = i ∧ w.category = 2))
theorem PL.put {ls : Array Slot} {nL : Nat} {l l' : List (Option Value)} {i : Nat} {v : Value} (hk : keepsAt l l' i v) (h : lv_has ls nL ((i, v) :: (alF 0 l).filter (fun q => !(q.1 == i) && !(q.1 + 1 == i && q.2.category == 2)))) : PL ls nL l' := by
  refine ⟨h.1, h.2.1, fun j w hj => ?_⟩
  rcases hk j w hj with ⟨rfl, rfl⟩ | ⟨h1, h2, h3⟩
  · exact h.2.2 (j, w) List.mem_cons_self
  · refine h.2.2 (j, w) (List.mem_cons_of_mem _ (List.mem_filter.mpr ⟨(alF_mem l 0 j w).mpr ⟨Nat.zero_le j, by simpa using h2⟩, ?_⟩))
    by_cases q : j + 1 = i
    · have : ¬ w.category = 2 := fun z => h3 ⟨q, z⟩
      simp [h1, q, this]
    · simp [h1, q]
theorem PL.put2 {ls : Array Slot} {nL : Nat} {l l' : List (Option Value)} {i : Nat} {v : Value} (hk : keepsAt2 l l' i v) (h : lv_has ls nL ((i, v) :: (alF 0 l).filter (fun q => !(q.1 == i) && (!(q.1 == i + 1) && !(q.1 + 1 == i && q.2.category == 2))))) : PL ls nL l' := by
  refine ⟨h.1, h.2.1, fun j w hj => ?_⟩
  rcases hk j w hj with ⟨rfl, rfl⟩ | ⟨h1, h1', h2, h3⟩
  · exact h.2.2 (j, w) List.mem_cons_self
  · refine h.2.2 (j, w) (List.mem_cons_of_mem _ (List.mem_filter.mpr ⟨(alF_mem l 0 j w).mpr ⟨Nat.zero_le j, by simpa using h2⟩, ?_⟩))
    by_cases q : j + 1 = i
    · have : ¬ w.category = 2 := fun z => h3 ⟨q, z⟩
      simp [h1, h1', q, this]
    · simp [h1, h1', q]
/-- is this slot no long -/
def n2 : Option Value → Bool
  | none => true
  | some w => !(w.category == 2)
theorem n2_not {w : Value} (h : n2 (some w) = true) : ¬ w.category = 2 := by
  intro q
  simp [n2, q] at h
theorem keeps_set {l : List (Option Value)} {i : Nat} {v : Value} (hp : ∀ j w, j + 1 = i → l[j]? = some (some w) → ¬ w.category = 2) : keepsAt l (l.set i (some v)) i v := by
  intro j w hj
  rw [List.getElem?_set] at hj
  by_cases e : i = j
  · subst e
    rw [if_pos rfl] at hj
    split at hj
    · simp at hj
      exact Or.inl ⟨rfl, hj.symm⟩
    · simp at hj
  · rw [if_neg e] at hj
    exact Or.inr ⟨fun q => e q.symm, hj, fun ⟨q1, q2⟩ => hp j w q1 hj q2⟩
theorem keeps_set2 {l : List (Option Value)} {i : Nat} {v : Value} (hp : ∀ j w, j + 1 = i → l[j]? = some (some w) → ¬ w.category = 2) : keepsAt2 l ((l.set (i + 1) none).set i (some v)) i v := by
  intro j w hj
  rw [List.getElem?_set] at hj
  by_cases e : i = j
  · subst e
    rw [if_pos rfl] at hj
    split at hj
    · simp at hj
      exact Or.inl ⟨rfl, hj.symm⟩
    · simp at hj
  · rw [if_neg e, List.getElem?_set] at hj
    by_cases e2 : i + 1 = j
    · rw [if_pos e2] at hj
      split at hj <;> simp at hj
    · rw [if_neg e2] at hj
      exact Or.inr ⟨fun q => e q.symm, fun q => e2 q.symm, hj, fun ⟨q1, q2⟩ => hp j w q1 hj q2⟩
/-- knowing more of the locals is no harm -/
def wkL : List (Option Value) → List (Option Value) → Prop
  | [], _ => True
  | none :: r, [] => wkL r []
  | some _ :: _, [] => False
  | none :: r, _ :: r' => wkL r r'
  | some v :: r, b :: r' => b = some v ∧ wkL r r'
theorem wkL_nil : ∀ {l : List (Option Value)}, wkL l [] → ∀ (i : Nat) (v : Value), ¬ l[i]? = some (some v)
  | [], _, i, v => by simp
  | none :: r, h, 0, v => by simp
  | none :: r, h, i + 1, v => by
    have h1 := wkL_nil (l := r) h i v
    simpa using h1
  | some _ :: _, h, i, v => absurd h id
theorem wkL_at : ∀ {l l' : List (Option Value)}, wkL l l' → ∀ (i : Nat) (v : Value), l[i]? = some (some v) → l'[i]? = some (some v)
  | [], l', _, i, v, h => by simp at h
  | a :: r, [], h, i, v, q => absurd q (wkL_nil h i v)
  | none :: r, b :: r', h, 0, v, q => by simp at q
  | none :: r, b :: r', h, i + 1, v, q => by
    have h1 := wkL_at (l := r) (l' := r') h i v (by simpa using q)
    simpa using h1
  | some w :: r, b :: r', h, 0, v, q => by
    simp at q
    subst q
    simp [h.1]
  | some w :: r, b :: r', h, i + 1, v, q => by
    have h1 := wkL_at (l := r) (l' := r') h.2 i v (by simpa using q)
    simpa using h1
theorem PL.wk {ls : Array Slot} {nL : Nat} {l l' : List (Option Value)} (hk : wkL l l') (h : PL ls nL l') : PL ls nL l := ⟨h.1, h.2.1, fun i v q => h.2.2 i v (wkL_at hk i v q)⟩
def enF : List Value → List (Option Value)
  | [] => []
  | v :: r => if v.category = 2 then some v :: none :: enF r else some v :: enF r
theorem enF_at : ∀ (vs : List Value) (b i : Nat) (v : Value), (enF vs)[i]? = some (some v) → (b + i, v) ∈ lv_args b vs
  | [], b, i, v, h => by simp [enF] at h
  | w :: r, b, i, v, h => by
    unfold enF at h
    by_cases c : w.category = 2
    · rw [if_pos c] at h
      match i, h with
      | 0, h =>
        simp at h
        subst h
        simp [lv_args]
      | 1, h => simp at h
      | i + 2, h =>
        have h1 := enF_at r (b + 2) i v (by simpa using h)
        have e : b + 2 + i = b + (i + 2) := by omega
        rw [e] at h1
        simp only [lv_args, if_pos c]
        exact List.mem_cons_of_mem _ h1
    · rw [if_neg c] at h
      match i, h with
      | 0, h =>
        simp at h
        subst h
        simp [lv_args]
      | i + 1, h =>
        have h1 := enF_at r (b + 1) i v (by simpa using h)
        have e : b + 1 + i = b + (i + 1) := by omega
        rw [e] at h1
        simp only [lv_args, if_neg c]
        exact List.mem_cons_of_mem _ h1
theorem PL.entry (vs : List Value) {n : Nat} (h : (lg_sl vs).length ≤ n) (k : Nat) : PL ((lg_sl vs ++ List.replicate (n - (lg_sl vs).length) Slot.unset).toArray) n (enF vs ++ List.replicate k none) := by
  have h1 := lv_entry vs h
  refine ⟨h1.1, h1.2.1, fun i v q => ?_⟩
  have h2 : (enF vs)[i]? = some (some v) := by
    by_cases z : i < (enF vs).length
    · rwa [List.getElem?_append_left z] at q
    · rw [List.getElem?_append_right (by omega)] at q
      have := List.eq_of_mem_replicate (List.mem_of_getElem? q)
      cases this
  have h3 := enF_at vs 0 i v h2
  rw [Nat.zero_add] at h3
  exact h1.2.2 (i, v) h3
/-! the judgement -/
def wv (j : Nat) : Int32 := nI ([43690, 52428, 61680, 65280].getD j 0)
def rmD (d : Nat) : Room := { frames := d, cells := 0, slots := 0, locals := 40 * d }
def StG (g : GC) (U : State) : Prop := va_K (gD g) vwCl (gTys g) U ∧ va_Z "WeighedLots$Lots" "WITH" "[I" (.ref (gW g)) (Aad g) U U.heap ∧ va_T .int (gW g) 4 (fun j => .int (wv j)) (Aad g) U U.heap ∧ adOK g
def Cx (g : GC) (own : String) (cc : ByteArray) (nL : Nat) (ret : Option FieldType) (p : Program) (s : State) (m : MethodId) (args : Array Value) (meth : Method) (c : Code) : Prop :=
  p.tables.exec = Jvm.exec ∧ c.code = cc ∧ meth.sig.returnType = ret ∧ c.maxLocals = nL ∧ s.vm.findClass own = some m.cls ∧ (∀ w ∈ tbU, w.before args s = true) ∧ meth.locks = false ∧ StG g s
abbrev QC : Type := Array Value → State → Outcome → State → Prop
def Tm (g : GC) (d : Nat) (own : String) (cc : ByteArray) (nL : Nat) (ret : Option FieldType) (Qc : QC) (pc : Nat) (l : List (Option Value)) (st : List Value) (M : MI) (L : ML) : Prop :=
  ∀ (p : Program) (e : Env) (s : State) (m : MethodId) (args : Array Value) (below : List Frame) (meth : Method) (c : Code) (H : Heap) (locs : List Loc) (ls : Array Slot), Cx g own cc nL ret p s m args meth c → PL ls nL l → va_P (gD g) vwCl (wld g M L) H → va_S (Aad g) s.heap H locs →
    W p (gL g) e (rmD d) s m args below meth c H locs 0 0 (MQ below Qc args s 0 0 (Aad g)) (F0 m pc ls st)
def PcG (g : GC) (av : List Value) (M : MI) (L : ML) : Array Value → State → Prop := va_Pc av (fun U => va_P (gD g) vwCl (wld g M L) U.heap ∧ StG g U)
def BG (g : GC) (u : MI × ML) (t : State) : Prop := va_P (gD g) vwCl (wld g u.1 u.2) t.heap
def QI (g : GC) (F : Int32) (M : MI) (L : ML) : QC := va_Qi (fun r (u : MI × ML) => r = F ∧ u = (M, L)) (BG g) (Aad g)
def QL (g : GC) (F : Int64) (M : MI) (L : ML) : QC := va_Ql (fun r (u : MI × ML) => r = F ∧ u = (M, L)) (BG g) (Aad g)
def QV (g : GC) (M : MI) (L : ML) : QC := va_Qv (fun (u : MI × ML) => u = (M, L)) (BG g) (Aad g)
abbrev wsU (y : MethodName) (cc : ByteArray) (nL : Nat) (ret : Option FieldType) : List Cond := Cond.code y cc nL ret :: tbU
/-- the contract of a method that answers an int (a long, nothing): its answer, the ints, the longs behind it -/
def CfI (g : GC) (d : Nat) (y : MethodName) (cc : ByteArray) (nL : Nat) (ty : FieldType) (av : List Value) (M : MI) (L : ML) (F : Int32) (M' : MI) (L' : ML) : Prop := Met (gL g) y (wsU y cc nL (some ty)) (rmD d) (PcG g av M L) (QI g F M' L') 0 0 (Aad g)
def CfL (g : GC) (d : Nat) (y : MethodName) (cc : ByteArray) (nL : Nat) (av : List Value) (M : MI) (L : ML) (F : Int64) (M' : MI) (L' : ML) : Prop := Met (gL g) y (wsU y cc nL (some .long)) (rmD d) (PcG g av M L) (QL g F M' L') 0 0 (Aad g)
def CfV (g : GC) (d : Nat) (y : MethodName) (cc : ByteArray) (nL : Nat) (av : List Value) (M : MI) (L : ML) (M' : MI) (L' : ML) : Prop := Met (gL g) y (wsU y cc nL none) (rmD d) (PcG g av M L) (QV g M' L') 0 0 (Aad g)
theorem met_of {g : GC} {d : Nat} {y : MethodName} {own : String} {cc : ByteArray} {nL : Nat} {ret : Option FieldType} {Qc : QC} {av : List Value} {M : MI} {L : ML} {l : List (Option Value)} (kk : Nat) (hl : enF av ++ List.replicate kk none = l) (hy : plainName y.cls = true) (ho : y.cls = own) (hn : (lg_sl av).length ≤ nL) (k : Tm g d own cc nL ret Qc 0 l [] M L) :
    Met (gL g) y (wsU y cc nL ret) (rmD d) (PcG g av M L) Qc 0 0 (Aad g) := by
  refine Met.ofW (cc := cc) (maxL := nL) (ret := ret) hy rfl ?_
  intro p e s m args below meth c s₁ B hml hv
  obtain ⟨rfl, hP, hG⟩ := hv
  have hts := atoms_spec (ws := wsU y cc nL ret) B.pre
  have hown : s.vm.findClass own = some m.cls := ho ▸ findClass_of_methodNamed B.named
  rw [lg_entry_eq]
  have hpl := PL.entry av hn kk
  rw [hl] at hpl
  exact k p e s m _ below meth c s.heap [] _ ⟨B.exec, B.bytes, B.returns, hml, hown, fun w hw => hts w (List.mem_cons_of_mem _ hw), B.notSynchronized, hG⟩ hpl hP va_S.rf
theorem cfI_of {g : GC} {d : Nat} {y : MethodName} {own : String} {cc : ByteArray} {nL : Nat} {ty : FieldType} {av : List Value} {M M' : MI} {L L' : ML} {F : Int32} {l : List (Option Value)} (kk : Nat) (hl : enF av ++ List.replicate kk none = l) (hy : plainName y.cls = true) (ho : y.cls = own) (hn : (lg_sl av).length ≤ nL) (k : Tm g d own cc nL (some ty) (QI g F M' L') 0 l [] M L) : CfI g d y cc nL ty av M L F M' L' := met_of kk hl hy ho hn k
theorem cfL_of {g : GC} {d : Nat} {y : MethodName} {own : String} {cc : ByteArray} {nL : Nat} {av : List Value} {M M' : MI} {L L' : ML} {F : Int64} {l : List (Option Value)} (kk : Nat) (hl : enF av ++ List.replicate kk none = l) (hy : plainName y.cls = true) (ho : y.cls = own) (hn : (lg_sl av).length ≤ nL) (k : Tm g d own cc nL (some .long) (QL g F M' L') 0 l [] M L) : CfL g d y cc nL av M L F M' L' := met_of kk hl hy ho hn k
theorem cfV_of {g : GC} {d : Nat} {y : MethodName} {own : String} {cc : ByteArray} {nL : Nat} {av : List Value} {M M' : MI} {L L' : ML} {l : List (Option Value)} (kk : Nat) (hl : enF av ++ List.replicate kk none = l) (hy : plainName y.cls = true) (ho : y.cls = own) (hn : (lg_sl av).length ≤ nL) (k : Tm g d own cc nL none (QV g M' L') 0 l [] M L) : CfV g d y cc nL av M L M' L' := met_of kk hl hy ho hn k
/-! a boolean as the machine has it -/
def bI (b : Bool) : Int32 := if b then 1 else 0
theorem bI_01 (b : Bool) : bI b = 0 ∨ bI b = 1 := by cases b <;> simp [bI]
theorem bI_0 (b : Bool) : bI b = 0 ↔ b = false := by cases b <;> simp [bI]
theorem bI_n0 (b : Bool) : ¬ bI b = 0 ↔ b = true := by cases b <;> simp [bI]
theorem bI_1 (b : Bool) : bI b = 1 ↔ b = true := by cases b <;> simp [bI]
theorem bI_n1 (b : Bool) : ¬ bI b = 1 ↔ b = false := by cases b <;> simp [bI]
/-- an index: x is the place k of a row of n -/
def ixI (x : Int32) (n k : Nat) : Prop := ¬ x < 0 ∧ x.toNatClampNeg = k ∧ k < n
theorem ixI.vp {x : Int32} {n k : Nat} (h : ixI x n k) : vp_in x n := fun q => q.elim h.1 (fun q => by have := h.2.1; have := h.2.2; omega)
theorem ix_nI {k n : Nat} (h : k < n) (hn : n < 2 ^ 31) : ixI (nI k) n k := ⟨nI_pos (by omega), nI_clamp (by omega), h⟩
/-- the kit's facts of a field's link: own's entry idx is the field k of the kind ci -/
def FL (own : String) (idx ci k : Nat) : Prop := ∃ (C : String) (T : u_T) (N : Nat) (ty0 : Nat → FieldType), vwCl[ci]? = some (C, T, N) ∧ (∀ w ∈ u_ws C T N, w ∈ tbU) ∧ k < N ∧ Cond.fieldLink own idx (T k).1 (T k).2.1 (T k).2.2.1 ∈ tbU ∧ (∀ k, k < N → parseFieldDescriptor (T k).2.2.1 = some (ty0 k)) ∧ (∀ a, a < N → ∀ b, b < N → a ≠ b → (T a).2.1 ≠ (T b).2.1)
/-- and it is an int that may be written -/
def FW (ci k : Nat) (ty : FieldType) : Prop := ∀ (C : String) (T : u_T) (N : Nat), vwCl[ci]? = some (C, T, N) → (T k).2.2.2 = false ∧ parseFieldDescriptor (T k).2.2.1 = some ty
/-- the kit's facts of a method: it is there, it is taken as it stands -/
def MV (y : MethodName) (cc : ByteArray) (nL : Nat) (ret : Option FieldType) (n : Nat) : Prop := Cond.instanceMethod y ∈ tbU ∧ Cond.selects y.cls y y ∈ tbU ∧ Cond.initialized y.cls ∈ tbU ∧ Cond.code y cc nL ret ∈ tbU ∧ (y.cls ≠ "java/lang/invoke/MethodHandle" ∧ y.cls ≠ "java/lang/invoke/VarHandle" ∧ (parseMethodDescriptor y.desc).map (fun d => d.parameters.length) = some n) ∧ nL ≤ 21
def MS (y : MethodName) (cc : ByteArray) (nL : Nat) (ret : Option FieldType) (n : Nat) : Prop := Cond.static y ∈ tbU ∧ Cond.initialized y.cls ∈ tbU ∧ Cond.code y cc nL ret ∈ tbU ∧ (y.cls ≠ "java/lang/invoke/MethodHandle" ∧ y.cls ≠ "java/lang/invoke/VarHandle" ∧ (parseMethodDescriptor y.desc).map (fun d => d.parameters.length) = some n) ∧ nL ≤ 21
theorem tb_in {w : Cond} (h : w ∈ tbU) : (w.onTables && w.keeps) = true ∨ ∃ ty, w = .arrayClass ty := good_of_word (List.mem_filter.mp h).2
theorem tb_goodIn {ws : List Cond} (h : ∀ w ∈ ws, w ∈ tbU) : GoodIn tbU ws := fun w hw => ⟨h w hw, tb_in (h w hw)⟩
theorem blindG (g : GC) (av : List Value) (M : MI) (L : ML) : FrameBlind (PcG g av M L) := fun a U gg mk q => by
  obtain ⟨h1, h2, h3, h4, h5, h6⟩ := q
  exact ⟨h1, h2, va_K.moved (u := U) (U := U.calling gg mk a) (Vm.Alike.refl U.vm) h3, va_Z.moved (u := U) (U := U.calling gg mk a) (Vm.Alike.refl U.vm) h4, va_T.moved (u := U) (U := U.calling gg mk a) (Vm.Alike.refl U.vm) h5, h6⟩
theorem StG.move {g : GC} {s U : State} {H : Heap} {locs : List Loc} (h : StG g s) (hS : va_S (Aad g) s.heap H locs) (hU : U.heap = H) (hW : s.WarmedH U.vm) : StG g U := by
  refine ⟨va_K.moved hW.alike h.1, ?_, ?_, h.2.2.2⟩
  · have h1 := (va_Z.moved (U := U) hW.alike h.2.1).kept (H1 := U.heap) (fun a ha hn => by rw [hU]; exact hS.2.1 a ha hn)
    exact h1
  · have h1 := (va_T.moved (U := U) hW.alike h.2.2.1).kept (H1 := U.heap) (fun a ha hn => by rw [hU]; exact hS.2.1 a ha hn)
    exact h1
theorem kac_nat : Cond.native arraycopyName ∈ tbU := tbm 429 (by decide +kernel) (by decide +kernel)
theorem kac_sta : Cond.static arraycopyName ∈ tbU := tbm 428 (by decide +kernel) (by decide +kernel)
theorem kac_ini : Cond.initialized "java/lang/System" ∈ tbU := tbm 68 (by decide +kernel) (by decide +kernel)
section Toy
variable {g : GC} {d : Nat} {own : String} {cc : ByteArray} {nL : Nat} {ret : Option FieldType} {Qc : QC} {pc : Nat} {l : List (Option Value)} {st : List Value} {M : MI} {L : ML}

theorem tm_iconst {z : Int} (v : Int32) (hv : Int32.ofInt z = v) (n : Nat) (hn : pc + 1 = n) (hdg : decode cc pc = .ok (.iconst z, 1)) (k : Tm g d own cc nL ret Qc n l (.int v :: st) M L) : Tm g d own cc nL ret Qc pc l (st) M L := by
  subst hn
  exact fun p e s m args below meth c H locs ls C hl hP hS => lv_iconst C.1 C.2.1 hdg hv (k p e s m args below meth c H locs ls C hl hP hS)
theorem tm_bipush {z : Int} (v : Int32) (hv : (Int8.ofInt z).toInt32 = v) (n : Nat) (hn : pc + 2 = n) (hdg : decode cc pc = .ok (.bipush z, 2)) (k : Tm g d own cc nL ret Qc n l (.int v :: st) M L) : Tm g d own cc nL ret Qc pc l (st) M L := by
  subst hn
  exact fun p e s m args below meth c H locs ls C hl hP hS => lv_bipush C.1 C.2.1 hdg hv (k p e s m args below meth c H locs ls C hl hP hS)
theorem tm_sipush {z : Int} (v : Int32) (hv : (Int16.ofInt z).toInt32 = v) (n : Nat) (hn : pc + 3 = n) (hdg : decode cc pc = .ok (.sipush z, 3)) (k : Tm g d own cc nL ret Qc n l (.int v :: st) M L) : Tm g d own cc nL ret Qc pc l (st) M L := by
  subst hn
  exact fun p e s m args below meth c H locs ls C hl hP hS => lv_sipush C.1 C.2.1 hdg hv (k p e s m args below meth c H locs ls C hl hP hS)
theorem tm_lconst {z : Fin 2} (v : Int64) (hv : Int64.ofNat (z : Nat) = v) (n : Nat) (hn : pc + 1 = n) (hdg : decode cc pc = .ok (.lconst z, 1)) (k : Tm g d own cc nL ret Qc n l (.long v :: st) M L) : Tm g d own cc nL ret Qc pc l (st) M L := by
  subst hn
  exact fun p e s m args below meth c H locs ls C hl hP hS => lv_lconst C.1 C.2.1 hdg hv (k p e s m args below meth c H locs ls C hl hP hS)
theorem tm_ldc {index : Nat} {v : Int32} (hw : Cond.constant own index v ∈ tbU) (n : Nat) (hn : pc + 2 = n) (hdg : decode cc pc = .ok (.ldc index, 2)) (k : Tm g d own cc nL ret Qc n l (.int v :: st) M L) : Tm g d own cc nL ret Qc pc l (st) M L := by
  subst hn
  exact fun p e s m args below meth c H locs ls C hl hP hS => lv_ldc C.1 C.2.1 C.2.2.2.2.1 (C.2.2.2.2.2.1 _ hw) hdg (k p e s m args below meth c H locs ls C hl hP hS)
theorem tm_ldcw {index : Nat} {v : Int32} (hw : Cond.constant own index v ∈ tbU) (n : Nat) (hn : pc + 3 = n) (hdg : decode cc pc = .ok (.ldc_w index, 3)) (k : Tm g d own cc nL ret Qc n l (.int v :: st) M L) : Tm g d own cc nL ret Qc pc l (st) M L := by
  subst hn
  exact fun p e s m args below meth c H locs ls C hl hP hS => lv_ldcw C.1 C.2.1 C.2.2.2.2.1 (C.2.2.2.2.2.1 _ hw) hdg (k p e s m args below meth c H locs ls C hl hP hS)
theorem tm_ldc2 {index : Nat} {v : Int64} (hw : Cond.constantLong own index v ∈ tbU) (n : Nat) (hn : pc + 3 = n) (hdg : decode cc pc = .ok (.ldc2_w index, 3)) (k : Tm g d own cc nL ret Qc n l (.long v :: st) M L) : Tm g d own cc nL ret Qc pc l (st) M L := by
  subst hn
  exact fun p e s m args below meth c H locs ls C hl hP hS => lv_ldc2 C.1 C.2.1 C.2.2.2.2.1 (C.2.2.2.2.2.1 _ hw) hdg (k p e s m args below meth c H locs ls C hl hP hS)
theorem tm_iadd {x y : Int32} (n : Nat) (hn : pc + 1 = n) (hdg : decode cc pc = .ok (.iadd, 1)) (k : Tm g d own cc nL ret Qc n l (.int (x + y) :: st) M L) : Tm g d own cc nL ret Qc pc l (.int y :: .int x :: st) M L := by
  subst hn
  exact fun p e s m args below meth c H locs ls C hl hP hS => lv_iadd C.1 C.2.1 hdg (k p e s m args below meth c H locs ls C hl hP hS)
theorem tm_isub {x y : Int32} (n : Nat) (hn : pc + 1 = n) (hdg : decode cc pc = .ok (.isub, 1)) (k : Tm g d own cc nL ret Qc n l (.int (x - y) :: st) M L) : Tm g d own cc nL ret Qc pc l (.int y :: .int x :: st) M L := by
  subst hn
  exact fun p e s m args below meth c H locs ls C hl hP hS => lv_isub C.1 C.2.1 hdg (k p e s m args below meth c H locs ls C hl hP hS)
theorem tm_imul {x y : Int32} (n : Nat) (hn : pc + 1 = n) (hdg : decode cc pc = .ok (.imul, 1)) (k : Tm g d own cc nL ret Qc n l (.int (x * y) :: st) M L) : Tm g d own cc nL ret Qc pc l (.int y :: .int x :: st) M L := by
  subst hn
  exact fun p e s m args below meth c H locs ls C hl hP hS => lv_imul C.1 C.2.1 hdg (k p e s m args below meth c H locs ls C hl hP hS)
theorem tm_iand {x y : Int32} (n : Nat) (hn : pc + 1 = n) (hdg : decode cc pc = .ok (.iand, 1)) (k : Tm g d own cc nL ret Qc n l (.int (x &&& y) :: st) M L) : Tm g d own cc nL ret Qc pc l (.int y :: .int x :: st) M L := by
  subst hn
  exact fun p e s m args below meth c H locs ls C hl hP hS => lv_iand C.1 C.2.1 hdg (k p e s m args below meth c H locs ls C hl hP hS)
theorem tm_ior {x y : Int32} (n : Nat) (hn : pc + 1 = n) (hdg : decode cc pc = .ok (.ior, 1)) (k : Tm g d own cc nL ret Qc n l (.int (x ||| y) :: st) M L) : Tm g d own cc nL ret Qc pc l (.int y :: .int x :: st) M L := by
  subst hn
  exact fun p e s m args below meth c H locs ls C hl hP hS => lv_ior C.1 C.2.1 hdg (k p e s m args below meth c H locs ls C hl hP hS)
theorem tm_ixor {x y : Int32} (n : Nat) (hn : pc + 1 = n) (hdg : decode cc pc = .ok (.ixor, 1)) (k : Tm g d own cc nL ret Qc n l (.int (x ^^^ y) :: st) M L) : Tm g d own cc nL ret Qc pc l (.int y :: .int x :: st) M L := by
  subst hn
  exact fun p e s m args below meth c H locs ls C hl hP hS => lv_ixor C.1 C.2.1 hdg (k p e s m args below meth c H locs ls C hl hP hS)
theorem tm_ishl {x y : Int32} (n : Nat) (hn : pc + 1 = n) (hdg : decode cc pc = .ok (.ishl, 1)) (k : Tm g d own cc nL ret Qc n l (.int (x <<< (y &&& 31)) :: st) M L) : Tm g d own cc nL ret Qc pc l (.int y :: .int x :: st) M L := by
  subst hn
  exact fun p e s m args below meth c H locs ls C hl hP hS => lv_ishl C.1 C.2.1 hdg (k p e s m args below meth c H locs ls C hl hP hS)
theorem tm_ishr {x y : Int32} (n : Nat) (hn : pc + 1 = n) (hdg : decode cc pc = .ok (.ishr, 1)) (k : Tm g d own cc nL ret Qc n l (.int (x >>> (y &&& 31)) :: st) M L) : Tm g d own cc nL ret Qc pc l (.int y :: .int x :: st) M L := by
  subst hn
  exact fun p e s m args below meth c H locs ls C hl hP hS => lv_ishr C.1 C.2.1 hdg (k p e s m args below meth c H locs ls C hl hP hS)
theorem tm_iushr {x y : Int32} (n : Nat) (hn : pc + 1 = n) (hdg : decode cc pc = .ok (.iushr, 1)) (k : Tm g d own cc nL ret Qc n l (.int ((x.toUInt32 >>> (y.toUInt32 &&& Int32.toUInt32 31)).toInt32) :: st) M L) : Tm g d own cc nL ret Qc pc l (.int y :: .int x :: st) M L := by
  subst hn
  exact fun p e s m args below meth c H locs ls C hl hP hS => lv_iushr C.1 C.2.1 hdg rfl (k p e s m args below meth c H locs ls C hl hP hS)
theorem tm_idiv {x y : Int32} (hne : ¬ y = 0) (n : Nat) (hn : pc + 1 = n) (hdg : decode cc pc = .ok (.idiv, 1)) (k : Tm g d own cc nL ret Qc n l (.int (x / y) :: st) M L) : Tm g d own cc nL ret Qc pc l (.int y :: .int x :: st) M L := by
  subst hn
  exact fun p e s m args below meth c H locs ls C hl hP hS => lv_idiv C.1 C.2.1 hdg hne (k p e s m args below meth c H locs ls C hl hP hS)
theorem tm_irem {x y : Int32} (hne : ¬ y = 0) (n : Nat) (hn : pc + 1 = n) (hdg : decode cc pc = .ok (.irem, 1)) (k : Tm g d own cc nL ret Qc n l (.int (x - x / y * y) :: st) M L) : Tm g d own cc nL ret Qc pc l (.int y :: .int x :: st) M L := by
  subst hn
  exact fun p e s m args below meth c H locs ls C hl hP hS => lv_irem C.1 C.2.1 hdg hne (k p e s m args below meth c H locs ls C hl hP hS)
theorem tm_ineg {x : Int32} (n : Nat) (hn : pc + 1 = n) (hdg : decode cc pc = .ok (.ineg, 1)) (k : Tm g d own cc nL ret Qc n l (.int (-x) :: st) M L) : Tm g d own cc nL ret Qc pc l (.int x :: st) M L := by
  subst hn
  exact fun p e s m args below meth c H locs ls C hl hP hS => lv_ineg C.1 C.2.1 hdg (k p e s m args below meth c H locs ls C hl hP hS)
theorem tm_ladd {x y : Int64} (n : Nat) (hn : pc + 1 = n) (hdg : decode cc pc = .ok (.ladd, 1)) (k : Tm g d own cc nL ret Qc n l (.long (x + y) :: st) M L) : Tm g d own cc nL ret Qc pc l (.long y :: .long x :: st) M L := by
  subst hn
  exact fun p e s m args below meth c H locs ls C hl hP hS => lv_ladd C.1 C.2.1 hdg (k p e s m args below meth c H locs ls C hl hP hS)
theorem tm_land {x y : Int64} (n : Nat) (hn : pc + 1 = n) (hdg : decode cc pc = .ok (.land, 1)) (k : Tm g d own cc nL ret Qc n l (.long (x &&& y) :: st) M L) : Tm g d own cc nL ret Qc pc l (.long y :: .long x :: st) M L := by
  subst hn
  exact fun p e s m args below meth c H locs ls C hl hP hS => lv_land C.1 C.2.1 hdg (k p e s m args below meth c H locs ls C hl hP hS)
theorem tm_lor {x y : Int64} (n : Nat) (hn : pc + 1 = n) (hdg : decode cc pc = .ok (.lor, 1)) (k : Tm g d own cc nL ret Qc n l (.long (x ||| y) :: st) M L) : Tm g d own cc nL ret Qc pc l (.long y :: .long x :: st) M L := by
  subst hn
  exact fun p e s m args below meth c H locs ls C hl hP hS => lv_lor C.1 C.2.1 hdg (k p e s m args below meth c H locs ls C hl hP hS)
theorem tm_ldiv {x y : Int64} (hne : ¬ y = 0) (n : Nat) (hn : pc + 1 = n) (hdg : decode cc pc = .ok (.ldiv, 1)) (k : Tm g d own cc nL ret Qc n l (.long (x / y) :: st) M L) : Tm g d own cc nL ret Qc pc l (.long y :: .long x :: st) M L := by
  subst hn
  exact fun p e s m args below meth c H locs ls C hl hP hS => lv_ldiv C.1 C.2.1 hdg hne (k p e s m args below meth c H locs ls C hl hP hS)
theorem tm_lrem {x y : Int64} (hne : ¬ y = 0) (n : Nat) (hn : pc + 1 = n) (hdg : decode cc pc = .ok (.lrem, 1)) (k : Tm g d own cc nL ret Qc n l (.long (x - x / y * y) :: st) M L) : Tm g d own cc nL ret Qc pc l (.long y :: .long x :: st) M L := by
  subst hn
  exact fun p e s m args below meth c H locs ls C hl hP hS => lv_lrem C.1 C.2.1 hdg hne (k p e s m args below meth c H locs ls C hl hP hS)
theorem tm_lneg {x : Int64} (n : Nat) (hn : pc + 1 = n) (hdg : decode cc pc = .ok (.lneg, 1)) (k : Tm g d own cc nL ret Qc n l (.long (-x) :: st) M L) : Tm g d own cc nL ret Qc pc l (.long x :: st) M L := by
  subst hn
  exact fun p e s m args below meth c H locs ls C hl hP hS => lv_lneg C.1 C.2.1 hdg (k p e s m args below meth c H locs ls C hl hP hS)
theorem tm_lshl {x : Int64} {y : Int32} (n : Nat) (hn : pc + 1 = n) (hdg : decode cc pc = .ok (.lshl, 1)) (k : Tm g d own cc nL ret Qc n l (.long (x <<< (y.toInt64 &&& 63)) :: st) M L) : Tm g d own cc nL ret Qc pc l (.int y :: .long x :: st) M L := by
  subst hn
  exact fun p e s m args below meth c H locs ls C hl hP hS => lv_lshl C.1 C.2.1 hdg rfl (k p e s m args below meth c H locs ls C hl hP hS)
theorem tm_lcmp {x y : Int64} (n : Nat) (hn : pc + 1 = n) (hdg : decode cc pc = .ok (.lcmp, 1)) (k : Tm g d own cc nL ret Qc n l (.int (lg_cmp x y) :: st) M L) : Tm g d own cc nL ret Qc pc l (.long y :: .long x :: st) M L := by
  subst hn
  exact fun p e s m args below meth c H locs ls C hl hP hS => W.lcmp C.1 C.2.1 hdg (k p e s m args below meth c H locs ls C hl hP hS)
theorem tm_i2l {x : Int32} (n : Nat) (hn : pc + 1 = n) (hdg : decode cc pc = .ok (.i2l, 1)) (k : Tm g d own cc nL ret Qc n l (.long (x.toInt64) :: st) M L) : Tm g d own cc nL ret Qc pc l (.int x :: st) M L := by
  subst hn
  exact fun p e s m args below meth c H locs ls C hl hP hS => lv_i2l C.1 C.2.1 hdg rfl (k p e s m args below meth c H locs ls C hl hP hS)
theorem tm_l2i {x : Int64} (n : Nat) (hn : pc + 1 = n) (hdg : decode cc pc = .ok (.l2i, 1)) (k : Tm g d own cc nL ret Qc n l (.int (x.toInt32) :: st) M L) : Tm g d own cc nL ret Qc pc l (.long x :: st) M L := by
  subst hn
  exact fun p e s m args below meth c H locs ls C hl hP hS => lv_l2i C.1 C.2.1 hdg rfl (k p e s m args below meth c H locs ls C hl hP hS)
theorem tm_i2b {x : Int32} (n : Nat) (hn : pc + 1 = n) (hdg : decode cc pc = .ok (.i2b, 1)) (k : Tm g d own cc nL ret Qc n l (.int (x.toInt8.toInt32) :: st) M L) : Tm g d own cc nL ret Qc pc l (.int x :: st) M L := by
  subst hn
  exact fun p e s m args below meth c H locs ls C hl hP hS => lv_i2b C.1 C.2.1 hdg rfl (k p e s m args below meth c H locs ls C hl hP hS)
theorem tm_i2s {x : Int32} (n : Nat) (hn : pc + 1 = n) (hdg : decode cc pc = .ok (.i2s, 1)) (k : Tm g d own cc nL ret Qc n l (.int (x.toInt16.toInt32) :: st) M L) : Tm g d own cc nL ret Qc pc l (.int x :: st) M L := by
  subst hn
  exact fun p e s m args below meth c H locs ls C hl hP hS => lv_i2s C.1 C.2.1 hdg rfl (k p e s m args below meth c H locs ls C hl hP hS)
theorem tm_dup {v : Value} (hv : v.category = 1) (n : Nat) (hn : pc + 1 = n) (hdg : decode cc pc = .ok (.dup, 1)) (k : Tm g d own cc nL ret Qc n l (v :: v :: st) M L) : Tm g d own cc nL ret Qc pc l (v :: st) M L := by
  subst hn
  exact fun p e s m args below meth c H locs ls C hl hP hS => lv_dup C.1 C.2.1 hdg hv (k p e s m args below meth c H locs ls C hl hP hS)
theorem tm_dup2 {v w : Value} (hv : v.category = 1) (hw : w.category = 1) (n : Nat) (hn : pc + 1 = n) (hdg : decode cc pc = .ok (.dup2, 1)) (k : Tm g d own cc nL ret Qc n l (v :: w :: v :: w :: st) M L) : Tm g d own cc nL ret Qc pc l (v :: w :: st) M L := by
  subst hn
  exact fun p e s m args below meth c H locs ls C hl hP hS => lv_dup2_11 C.1 C.2.1 hdg hv hw (k p e s m args below meth c H locs ls C hl hP hS)
theorem tm_pop {v : Value} (hv : v.category = 1) (n : Nat) (hn : pc + 1 = n) (hdg : decode cc pc = .ok (.pop, 1)) (k : Tm g d own cc nL ret Qc n l (st) M L) : Tm g d own cc nL ret Qc pc l (v :: st) M L := by
  subst hn
  exact fun p e s m args below meth c H locs ls C hl hP hS => lv_pop C.1 C.2.1 hdg hv (k p e s m args below meth c H locs ls C hl hP hS)
theorem tm_iload_0 {r : List (Option Value)} {x : Int32} (n : Nat) (hn : pc + 1 = n) (hdg : decode cc pc = .ok (.iload_n 0, 1)) (k : Tm g d own cc nL ret Qc n (some (.int x) :: r) (.int x :: st) M L) : Tm g d own cc nL ret Qc pc (some (.int x) :: r) st M L := by
  subst hn
  exact fun p e s m args below meth c H locs ls C hl hP hS => lv_iload_n C.1 C.2.1 hdg (i := 0) rfl (hl.2.2 0 _ rfl) (k p e s m args below meth c H locs ls C hl hP hS)
theorem tm_lload_0 {r : List (Option Value)} {x : Int64} (n : Nat) (hn : pc + 1 = n) (hdg : decode cc pc = .ok (.lload_n 0, 1)) (k : Tm g d own cc nL ret Qc n (some (.long x) :: r) (.long x :: st) M L) : Tm g d own cc nL ret Qc pc (some (.long x) :: r) st M L := by
  subst hn
  exact fun p e s m args below meth c H locs ls C hl hP hS => lv_lload_n C.1 C.2.1 hdg (i := 0) rfl (hl.2.2 0 _ rfl) (k p e s m args below meth c H locs ls C hl hP hS)
theorem tm_aload_0 {r : List (Option Value)} {x : Nat} (n : Nat) (hn : pc + 1 = n) (hdg : decode cc pc = .ok (.aload_n 0, 1)) (k : Tm g d own cc nL ret Qc n (some (.ref x) :: r) (.ref x :: st) M L) : Tm g d own cc nL ret Qc pc (some (.ref x) :: r) st M L := by
  subst hn
  exact fun p e s m args below meth c H locs ls C hl hP hS => lv_aload_n C.1 C.2.1 hdg (i := 0) rfl (hl.2.2 0 _ rfl) (k p e s m args below meth c H locs ls C hl hP hS)
theorem tm_istore_0 {b : Option Value} {r : List (Option Value)} {x : Int32} (hk : 0 < nL) (n : Nat) (hn : pc + 1 = n) (hdg : decode cc pc = .ok (.istore_n 0, 1)) (k : Tm g d own cc nL ret Qc n (some (.int x) :: r) st M L) : Tm g d own cc nL ret Qc pc (b :: r) (.int x :: st) M L := by
  subst hn
  intro p e s m args below meth c H locs ls C hl hP hS
  refine lv_istore_n C.1 C.2.1 hdg (i := 0) rfl hl.has hk rfl (fun ls' h' => k p e s m args below meth c H locs ls' C (PL.put (keeps_set (l := b :: r) (i := 0) (v := .int x) (fun j w e _ => absurd e (by omega))) h') hP hS)
theorem tm_astore_0 {b : Option Value} {r : List (Option Value)} {x : Nat} (hk : 0 < nL) (n : Nat) (hn : pc + 1 = n) (hdg : decode cc pc = .ok (.astore_n 0, 1)) (k : Tm g d own cc nL ret Qc n (some (.ref x) :: r) st M L) : Tm g d own cc nL ret Qc pc (b :: r) (.ref x :: st) M L := by
  subst hn
  intro p e s m args below meth c H locs ls C hl hP hS
  refine lv_astore_n C.1 C.2.1 hdg (i := 0) rfl hl.has hk rfl (fun ls' h' => k p e s m args below meth c H locs ls' C (PL.put (keeps_set (l := b :: r) (i := 0) (v := .ref x) (fun j w e _ => absurd e (by omega))) h') hP hS)
theorem tm_iinc_0 {r : List (Option Value)} {x : Int32} {z : Int} (v : Int32) (hv : x + Int32.ofInt z = v) (hk : 0 < nL) (n : Nat) (hn : pc + 3 = n) (hdg : decode cc pc = .ok (.iinc 0 z, 3)) (k : Tm g d own cc nL ret Qc n (some (.int v) :: r) st M L) : Tm g d own cc nL ret Qc pc (some (.int x) :: r) st M L := by
  subst hn
  intro p e s m args below meth c H locs ls C hl hP hS
  obtain ⟨kk, hkk⟩ := List.mem_iff_getElem?.mp ((alF_mem (some (.int x) :: r) 0 0 (.int x)).mpr ⟨Nat.zero_le _, rfl⟩)
  refine lv_iinc (v := v) C.1 C.2.1 hdg hl.has hkk hv hk rfl (fun ls' h' => k p e s m args below meth c H locs ls' C (PL.put (keeps_set (l := some (.int x) :: r) (i := 0) (v := .int v) (fun j w e _ => absurd e (by omega))) h') hP hS)
theorem tm_lstore_0 {b b2 : Option Value} {r : List (Option Value)} {x : Int64} (hk : 1 < nL) (n : Nat) (hn : pc + 1 = n) (hdg : decode cc pc = .ok (.lstore_n 0, 1)) (k : Tm g d own cc nL ret Qc n (some (.long x) :: none :: r) st M L) : Tm g d own cc nL ret Qc pc (b :: b2 :: r) (.long x :: st) M L := by
  subst hn
  intro p e s m args below meth c H locs ls C hl hP hS
  refine lv_lstore_n C.1 C.2.1 hdg (i := 0) rfl hl.has hk rfl (fun ls' h' => k p e s m args below meth c H locs ls' C (PL.put2 (keeps_set2 (l := b :: b2 :: r) (i := 0) (v := .long x) (fun j w e _ => absurd e (by omega))) h') hP hS)
theorem tm_iload_1 {a0 : Option Value} {r : List (Option Value)} {x : Int32} (n : Nat) (hn : pc + 1 = n) (hdg : decode cc pc = .ok (.iload_n 1, 1)) (k : Tm g d own cc nL ret Qc n (a0 :: some (.int x) :: r) (.int x :: st) M L) : Tm g d own cc nL ret Qc pc (a0 :: some (.int x) :: r) st M L := by
  subst hn
  exact fun p e s m args below meth c H locs ls C hl hP hS => lv_iload_n C.1 C.2.1 hdg (i := 1) rfl (hl.2.2 1 _ rfl) (k p e s m args below meth c H locs ls C hl hP hS)
theorem tm_lload_1 {a0 : Option Value} {r : List (Option Value)} {x : Int64} (n : Nat) (hn : pc + 1 = n) (hdg : decode cc pc = .ok (.lload_n 1, 1)) (k : Tm g d own cc nL ret Qc n (a0 :: some (.long x) :: r) (.long x :: st) M L) : Tm g d own cc nL ret Qc pc (a0 :: some (.long x) :: r) st M L := by
  subst hn
  exact fun p e s m args below meth c H locs ls C hl hP hS => lv_lload_n C.1 C.2.1 hdg (i := 1) rfl (hl.2.2 1 _ rfl) (k p e s m args below meth c H locs ls C hl hP hS)
theorem tm_aload_1 {a0 : Option Value} {r : List (Option Value)} {x : Nat} (n : Nat) (hn : pc + 1 = n) (hdg : decode cc pc = .ok (.aload_n 1, 1)) (k : Tm g d own cc nL ret Qc n (a0 :: some (.ref x) :: r) (.ref x :: st) M L) : Tm g d own cc nL ret Qc pc (a0 :: some (.ref x) :: r) st M L := by
  subst hn
  exact fun p e s m args below meth c H locs ls C hl hP hS => lv_aload_n C.1 C.2.1 hdg (i := 1) rfl (hl.2.2 1 _ rfl) (k p e s m args below meth c H locs ls C hl hP hS)
theorem tm_istore_1 {a0 : Option Value} {b : Option Value} {r : List (Option Value)} {x : Int32} (hk : 1 < nL) (h2 : n2 a0 = true) (n : Nat) (hn : pc + 1 = n) (hdg : decode cc pc = .ok (.istore_n 1, 1)) (k : Tm g d own cc nL ret Qc n (a0 :: some (.int x) :: r) st M L) : Tm g d own cc nL ret Qc pc (a0 :: b :: r) (.int x :: st) M L := by
  subst hn
  intro p e s m args below meth c H locs ls C hl hP hS
  refine lv_istore_n C.1 C.2.1 hdg (i := 1) rfl hl.has hk rfl (fun ls' h' => k p e s m args below meth c H locs ls' C (PL.put (keeps_set (l := a0 :: b :: r) (i := 1) (v := .int x) (fun j w e q => by
    have : j = 0 := by omega
    subst this
    simp at q
    subst q
    exact n2_not h2)) h') hP hS)
theorem tm_astore_1 {a0 : Option Value} {b : Option Value} {r : List (Option Value)} {x : Nat} (hk : 1 < nL) (h2 : n2 a0 = true) (n : Nat) (hn : pc + 1 = n) (hdg : decode cc pc = .ok (.astore_n 1, 1)) (k : Tm g d own cc nL ret Qc n (a0 :: some (.ref x) :: r) st M L) : Tm g d own cc nL ret Qc pc (a0 :: b :: r) (.ref x :: st) M L := by
  subst hn
  intro p e s m args below meth c H locs ls C hl hP hS
  refine lv_astore_n C.1 C.2.1 hdg (i := 1) rfl hl.has hk rfl (fun ls' h' => k p e s m args below meth c H locs ls' C (PL.put (keeps_set (l := a0 :: b :: r) (i := 1) (v := .ref x) (fun j w e q => by
    have : j = 0 := by omega
    subst this
    simp at q
    subst q
    exact n2_not h2)) h') hP hS)
theorem tm_iinc_1 {a0 : Option Value} {r : List (Option Value)} {x : Int32} {z : Int} (v : Int32) (hv : x + Int32.ofInt z = v) (hk : 1 < nL) (h2 : n2 a0 = true) (n : Nat) (hn : pc + 3 = n) (hdg : decode cc pc = .ok (.iinc 1 z, 3)) (k : Tm g d own cc nL ret Qc n (a0 :: some (.int v) :: r) st M L) : Tm g d own cc nL ret Qc pc (a0 :: some (.int x) :: r) st M L := by
  subst hn
  intro p e s m args below meth c H locs ls C hl hP hS
  obtain ⟨kk, hkk⟩ := List.mem_iff_getElem?.mp ((alF_mem (a0 :: some (.int x) :: r) 0 1 (.int x)).mpr ⟨Nat.zero_le _, rfl⟩)
  refine lv_iinc (v := v) C.1 C.2.1 hdg hl.has hkk hv hk rfl (fun ls' h' => k p e s m args below meth c H locs ls' C (PL.put (keeps_set (l := a0 :: some (.int x) :: r) (i := 1) (v := .int v) (fun j w e q => by
    have : j = 0 := by omega
    subst this
    simp at q
    subst q
    exact n2_not h2)) h') hP hS)
theorem tm_lstore_1 {a0 : Option Value} {b b2 : Option Value} {r : List (Option Value)} {x : Int64} (hk : 2 < nL) (h2 : n2 a0 = true) (n : Nat) (hn : pc + 1 = n) (hdg : decode cc pc = .ok (.lstore_n 1, 1)) (k : Tm g d own cc nL ret Qc n (a0 :: some (.long x) :: none :: r) st M L) : Tm g d own cc nL ret Qc pc (a0 :: b :: b2 :: r) (.long x :: st) M L := by
  subst hn
  intro p e s m args below meth c H locs ls C hl hP hS
  refine lv_lstore_n C.1 C.2.1 hdg (i := 1) rfl hl.has hk rfl (fun ls' h' => k p e s m args below meth c H locs ls' C (PL.put2 (keeps_set2 (l := a0 :: b :: b2 :: r) (i := 1) (v := .long x) (fun j w e q => by
    have : j = 0 := by omega
    subst this
    simp at q
    subst q
    exact n2_not h2)) h') hP hS)
theorem tm_iload_2 {a0 a1 : Option Value} {r : List (Option Value)} {x : Int32} (n : Nat) (hn : pc + 1 = n) (hdg : decode cc pc = .ok (.iload_n 2, 1)) (k : Tm g d own cc nL ret Qc n (a0 :: a1 :: some (.int x) :: r) (.int x :: st) M L) : Tm g d own cc nL ret Qc pc (a0 :: a1 :: some (.int x) :: r) st M L := by
  subst hn
  exact fun p e s m args below meth c H locs ls C hl hP hS => lv_iload_n C.1 C.2.1 hdg (i := 2) rfl (hl.2.2 2 _ rfl) (k p e s m args below meth c H locs ls C hl hP hS)
theorem tm_lload_2 {a0 a1 : Option Value} {r : List (Option Value)} {x : Int64} (n : Nat) (hn : pc + 1 = n) (hdg : decode cc pc = .ok (.lload_n 2, 1)) (k : Tm g d own cc nL ret Qc n (a0 :: a1 :: some (.long x) :: r) (.long x :: st) M L) : Tm g d own cc nL ret Qc pc (a0 :: a1 :: some (.long x) :: r) st M L := by
  subst hn
  exact fun p e s m args below meth c H locs ls C hl hP hS => lv_lload_n C.1 C.2.1 hdg (i := 2) rfl (hl.2.2 2 _ rfl) (k p e s m args below meth c H locs ls C hl hP hS)
theorem tm_aload_2 {a0 a1 : Option Value} {r : List (Option Value)} {x : Nat} (n : Nat) (hn : pc + 1 = n) (hdg : decode cc pc = .ok (.aload_n 2, 1)) (k : Tm g d own cc nL ret Qc n (a0 :: a1 :: some (.ref x) :: r) (.ref x :: st) M L) : Tm g d own cc nL ret Qc pc (a0 :: a1 :: some (.ref x) :: r) st M L := by
  subst hn
  exact fun p e s m args below meth c H locs ls C hl hP hS => lv_aload_n C.1 C.2.1 hdg (i := 2) rfl (hl.2.2 2 _ rfl) (k p e s m args below meth c H locs ls C hl hP hS)
theorem tm_istore_2 {a0 a1 : Option Value} {b : Option Value} {r : List (Option Value)} {x : Int32} (hk : 2 < nL) (h2 : n2 a1 = true) (n : Nat) (hn : pc + 1 = n) (hdg : decode cc pc = .ok (.istore_n 2, 1)) (k : Tm g d own cc nL ret Qc n (a0 :: a1 :: some (.int x) :: r) st M L) : Tm g d own cc nL ret Qc pc (a0 :: a1 :: b :: r) (.int x :: st) M L := by
  subst hn
  intro p e s m args below meth c H locs ls C hl hP hS
  refine lv_istore_n C.1 C.2.1 hdg (i := 2) rfl hl.has hk rfl (fun ls' h' => k p e s m args below meth c H locs ls' C (PL.put (keeps_set (l := a0 :: a1 :: b :: r) (i := 2) (v := .int x) (fun j w e q => by
    have : j = 1 := by omega
    subst this
    simp at q
    subst q
    exact n2_not h2)) h') hP hS)
theorem tm_astore_2 {a0 a1 : Option Value} {b : Option Value} {r : List (Option Value)} {x : Nat} (hk : 2 < nL) (h2 : n2 a1 = true) (n : Nat) (hn : pc + 1 = n) (hdg : decode cc pc = .ok (.astore_n 2, 1)) (k : Tm g d own cc nL ret Qc n (a0 :: a1 :: some (.ref x) :: r) st M L) : Tm g d own cc nL ret Qc pc (a0 :: a1 :: b :: r) (.ref x :: st) M L := by
  subst hn
  intro p e s m args below meth c H locs ls C hl hP hS
  refine lv_astore_n C.1 C.2.1 hdg (i := 2) rfl hl.has hk rfl (fun ls' h' => k p e s m args below meth c H locs ls' C (PL.put (keeps_set (l := a0 :: a1 :: b :: r) (i := 2) (v := .ref x) (fun j w e q => by
    have : j = 1 := by omega
    subst this
    simp at q
    subst q
    exact n2_not h2)) h') hP hS)
theorem tm_iinc_2 {a0 a1 : Option Value} {r : List (Option Value)} {x : Int32} {z : Int} (v : Int32) (hv : x + Int32.ofInt z = v) (hk : 2 < nL) (h2 : n2 a1 = true) (n : Nat) (hn : pc + 3 = n) (hdg : decode cc pc = .ok (.iinc 2 z, 3)) (k : Tm g d own cc nL ret Qc n (a0 :: a1 :: some (.int v) :: r) st M L) : Tm g d own cc nL ret Qc pc (a0 :: a1 :: some (.int x) :: r) st M L := by
  subst hn
  intro p e s m args below meth c H locs ls C hl hP hS
  obtain ⟨kk, hkk⟩ := List.mem_iff_getElem?.mp ((alF_mem (a0 :: a1 :: some (.int x) :: r) 0 2 (.int x)).mpr ⟨Nat.zero_le _, rfl⟩)
  refine lv_iinc (v := v) C.1 C.2.1 hdg hl.has hkk hv hk rfl (fun ls' h' => k p e s m args below meth c H locs ls' C (PL.put (keeps_set (l := a0 :: a1 :: some (.int x) :: r) (i := 2) (v := .int v) (fun j w e q => by
    have : j = 1 := by omega
    subst this
    simp at q
    subst q
    exact n2_not h2)) h') hP hS)
theorem tm_lstore_2 {a0 a1 : Option Value} {b b2 : Option Value} {r : List (Option Value)} {x : Int64} (hk : 3 < nL) (h2 : n2 a1 = true) (n : Nat) (hn : pc + 1 = n) (hdg : decode cc pc = .ok (.lstore_n 2, 1)) (k : Tm g d own cc nL ret Qc n (a0 :: a1 :: some (.long x) :: none :: r) st M L) : Tm g d own cc nL ret Qc pc (a0 :: a1 :: b :: b2 :: r) (.long x :: st) M L := by
  subst hn
  intro p e s m args below meth c H locs ls C hl hP hS
  refine lv_lstore_n C.1 C.2.1 hdg (i := 2) rfl hl.has hk rfl (fun ls' h' => k p e s m args below meth c H locs ls' C (PL.put2 (keeps_set2 (l := a0 :: a1 :: b :: b2 :: r) (i := 2) (v := .long x) (fun j w e q => by
    have : j = 1 := by omega
    subst this
    simp at q
    subst q
    exact n2_not h2)) h') hP hS)
theorem tm_iload_3 {a0 a1 a2 : Option Value} {r : List (Option Value)} {x : Int32} (n : Nat) (hn : pc + 1 = n) (hdg : decode cc pc = .ok (.iload_n 3, 1)) (k : Tm g d own cc nL ret Qc n (a0 :: a1 :: a2 :: some (.int x) :: r) (.int x :: st) M L) : Tm g d own cc nL ret Qc pc (a0 :: a1 :: a2 :: some (.int x) :: r) st M L := by
  subst hn
  exact fun p e s m args below meth c H locs ls C hl hP hS => lv_iload_n C.1 C.2.1 hdg (i := 3) rfl (hl.2.2 3 _ rfl) (k p e s m args below meth c H locs ls C hl hP hS)
theorem tm_lload_3 {a0 a1 a2 : Option Value} {r : List (Option Value)} {x : Int64} (n : Nat) (hn : pc + 1 = n) (hdg : decode cc pc = .ok (.lload_n 3, 1)) (k : Tm g d own cc nL ret Qc n (a0 :: a1 :: a2 :: some (.long x) :: r) (.long x :: st) M L) : Tm g d own cc nL ret Qc pc (a0 :: a1 :: a2 :: some (.long x) :: r) st M L := by
  subst hn
  exact fun p e s m args below meth c H locs ls C hl hP hS => lv_lload_n C.1 C.2.1 hdg (i := 3) rfl (hl.2.2 3 _ rfl) (k p e s m args below meth c H locs ls C hl hP hS)
theorem tm_aload_3 {a0 a1 a2 : Option Value} {r : List (Option Value)} {x : Nat} (n : Nat) (hn : pc + 1 = n) (hdg : decode cc pc = .ok (.aload_n 3, 1)) (k : Tm g d own cc nL ret Qc n (a0 :: a1 :: a2 :: some (.ref x) :: r) (.ref x :: st) M L) : Tm g d own cc nL ret Qc pc (a0 :: a1 :: a2 :: some (.ref x) :: r) st M L := by
  subst hn
  exact fun p e s m args below meth c H locs ls C hl hP hS => lv_aload_n C.1 C.2.1 hdg (i := 3) rfl (hl.2.2 3 _ rfl) (k p e s m args below meth c H locs ls C hl hP hS)
theorem tm_istore_3 {a0 a1 a2 : Option Value} {b : Option Value} {r : List (Option Value)} {x : Int32} (hk : 3 < nL) (h2 : n2 a2 = true) (n : Nat) (hn : pc + 1 = n) (hdg : decode cc pc = .ok (.istore_n 3, 1)) (k : Tm g d own cc nL ret Qc n (a0 :: a1 :: a2 :: some (.int x) :: r) st M L) : Tm g d own cc nL ret Qc pc (a0 :: a1 :: a2 :: b :: r) (.int x :: st) M L := by
  subst hn
  intro p e s m args below meth c H locs ls C hl hP hS
  refine lv_istore_n C.1 C.2.1 hdg (i := 3) rfl hl.has hk rfl (fun ls' h' => k p e s m args below meth c H locs ls' C (PL.put (keeps_set (l := a0 :: a1 :: a2 :: b :: r) (i := 3) (v := .int x) (fun j w e q => by
    have : j = 2 := by omega
    subst this
    simp at q
    subst q
    exact n2_not h2)) h') hP hS)
theorem tm_astore_3 {a0 a1 a2 : Option Value} {b : Option Value} {r : List (Option Value)} {x : Nat} (hk : 3 < nL) (h2 : n2 a2 = true) (n : Nat) (hn : pc + 1 = n) (hdg : decode cc pc = .ok (.astore_n 3, 1)) (k : Tm g d own cc nL ret Qc n (a0 :: a1 :: a2 :: some (.ref x) :: r) st M L) : Tm g d own cc nL ret Qc pc (a0 :: a1 :: a2 :: b :: r) (.ref x :: st) M L := by
  subst hn
  intro p e s m args below meth c H locs ls C hl hP hS
  refine lv_astore_n C.1 C.2.1 hdg (i := 3) rfl hl.has hk rfl (fun ls' h' => k p e s m args below meth c H locs ls' C (PL.put (keeps_set (l := a0 :: a1 :: a2 :: b :: r) (i := 3) (v := .ref x) (fun j w e q => by
    have : j = 2 := by omega
    subst this
    simp at q
    subst q
    exact n2_not h2)) h') hP hS)
theorem tm_iinc_3 {a0 a1 a2 : Option Value} {r : List (Option Value)} {x : Int32} {z : Int} (v : Int32) (hv : x + Int32.ofInt z = v) (hk : 3 < nL) (h2 : n2 a2 = true) (n : Nat) (hn : pc + 3 = n) (hdg : decode cc pc = .ok (.iinc 3 z, 3)) (k : Tm g d own cc nL ret Qc n (a0 :: a1 :: a2 :: some (.int v) :: r) st M L) : Tm g d own cc nL ret Qc pc (a0 :: a1 :: a2 :: some (.int x) :: r) st M L := by
  subst hn
  intro p e s m args below meth c H locs ls C hl hP hS
  obtain ⟨kk, hkk⟩ := List.mem_iff_getElem?.mp ((alF_mem (a0 :: a1 :: a2 :: some (.int x) :: r) 0 3 (.int x)).mpr ⟨Nat.zero_le _, rfl⟩)
  refine lv_iinc (v := v) C.1 C.2.1 hdg hl.has hkk hv hk rfl (fun ls' h' => k p e s m args below meth c H locs ls' C (PL.put (keeps_set (l := a0 :: a1 :: a2 :: some (.int x) :: r) (i := 3) (v := .int v) (fun j w e q => by
    have : j = 2 := by omega
    subst this
    simp at q
    subst q
    exact n2_not h2)) h') hP hS)
theorem tm_lstore_3 {a0 a1 a2 : Option Value} {b b2 : Option Value} {r : List (Option Value)} {x : Int64} (hk : 4 < nL) (h2 : n2 a2 = true) (n : Nat) (hn : pc + 1 = n) (hdg : decode cc pc = .ok (.lstore_n 3, 1)) (k : Tm g d own cc nL ret Qc n (a0 :: a1 :: a2 :: some (.long x) :: none :: r) st M L) : Tm g d own cc nL ret Qc pc (a0 :: a1 :: a2 :: b :: b2 :: r) (.long x :: st) M L := by
  subst hn
  intro p e s m args below meth c H locs ls C hl hP hS
  refine lv_lstore_n C.1 C.2.1 hdg (i := 3) rfl hl.has hk rfl (fun ls' h' => k p e s m args below meth c H locs ls' C (PL.put2 (keeps_set2 (l := a0 :: a1 :: a2 :: b :: b2 :: r) (i := 3) (v := .long x) (fun j w e q => by
    have : j = 2 := by omega
    subst this
    simp at q
    subst q
    exact n2_not h2)) h') hP hS)
theorem tm_iload_4 {a0 a1 a2 a3 : Option Value} {r : List (Option Value)} {x : Int32} (n : Nat) (hn : pc + 2 = n) (hdg : decode cc pc = .ok (.iload 4, 2)) (k : Tm g d own cc nL ret Qc n (a0 :: a1 :: a2 :: a3 :: some (.int x) :: r) (.int x :: st) M L) : Tm g d own cc nL ret Qc pc (a0 :: a1 :: a2 :: a3 :: some (.int x) :: r) st M L := by
  subst hn
  exact fun p e s m args below meth c H locs ls C hl hP hS => lv_iload C.1 C.2.1 hdg (hl.2.2 4 _ rfl) (k p e s m args below meth c H locs ls C hl hP hS)
theorem tm_lload_4 {a0 a1 a2 a3 : Option Value} {r : List (Option Value)} {x : Int64} (n : Nat) (hn : pc + 2 = n) (hdg : decode cc pc = .ok (.lload 4, 2)) (k : Tm g d own cc nL ret Qc n (a0 :: a1 :: a2 :: a3 :: some (.long x) :: r) (.long x :: st) M L) : Tm g d own cc nL ret Qc pc (a0 :: a1 :: a2 :: a3 :: some (.long x) :: r) st M L := by
  subst hn
  exact fun p e s m args below meth c H locs ls C hl hP hS => lv_lload C.1 C.2.1 hdg (hl.2.2 4 _ rfl) (k p e s m args below meth c H locs ls C hl hP hS)
theorem tm_aload_4 {a0 a1 a2 a3 : Option Value} {r : List (Option Value)} {x : Nat} (n : Nat) (hn : pc + 2 = n) (hdg : decode cc pc = .ok (.aload 4, 2)) (k : Tm g d own cc nL ret Qc n (a0 :: a1 :: a2 :: a3 :: some (.ref x) :: r) (.ref x :: st) M L) : Tm g d own cc nL ret Qc pc (a0 :: a1 :: a2 :: a3 :: some (.ref x) :: r) st M L := by
  subst hn
  exact fun p e s m args below meth c H locs ls C hl hP hS => lv_aload C.1 C.2.1 hdg (hl.2.2 4 _ rfl) (k p e s m args below meth c H locs ls C hl hP hS)
theorem tm_istore_4 {a0 a1 a2 a3 : Option Value} {b : Option Value} {r : List (Option Value)} {x : Int32} (hk : 4 < nL) (h2 : n2 a3 = true) (n : Nat) (hn : pc + 2 = n) (hdg : decode cc pc = .ok (.istore 4, 2)) (k : Tm g d own cc nL ret Qc n (a0 :: a1 :: a2 :: a3 :: some (.int x) :: r) st M L) : Tm g d own cc nL ret Qc pc (a0 :: a1 :: a2 :: a3 :: b :: r) (.int x :: st) M L := by
  subst hn
  intro p e s m args below meth c H locs ls C hl hP hS
  refine lv_istore C.1 C.2.1 hdg hl.has hk rfl (fun ls' h' => k p e s m args below meth c H locs ls' C (PL.put (keeps_set (l := a0 :: a1 :: a2 :: a3 :: b :: r) (i := 4) (v := .int x) (fun j w e q => by
    have : j = 3 := by omega
    subst this
    simp at q
    subst q
    exact n2_not h2)) h') hP hS)
theorem tm_astore_4 {a0 a1 a2 a3 : Option Value} {b : Option Value} {r : List (Option Value)} {x : Nat} (hk : 4 < nL) (h2 : n2 a3 = true) (n : Nat) (hn : pc + 2 = n) (hdg : decode cc pc = .ok (.astore 4, 2)) (k : Tm g d own cc nL ret Qc n (a0 :: a1 :: a2 :: a3 :: some (.ref x) :: r) st M L) : Tm g d own cc nL ret Qc pc (a0 :: a1 :: a2 :: a3 :: b :: r) (.ref x :: st) M L := by
  subst hn
  intro p e s m args below meth c H locs ls C hl hP hS
  refine lv_astore C.1 C.2.1 hdg hl.has hk rfl (fun ls' h' => k p e s m args below meth c H locs ls' C (PL.put (keeps_set (l := a0 :: a1 :: a2 :: a3 :: b :: r) (i := 4) (v := .ref x) (fun j w e q => by
    have : j = 3 := by omega
    subst this
    simp at q
    subst q
    exact n2_not h2)) h') hP hS)
theorem tm_iinc_4 {a0 a1 a2 a3 : Option Value} {r : List (Option Value)} {x : Int32} {z : Int} (v : Int32) (hv : x + Int32.ofInt z = v) (hk : 4 < nL) (h2 : n2 a3 = true) (n : Nat) (hn : pc + 3 = n) (hdg : decode cc pc = .ok (.iinc 4 z, 3)) (k : Tm g d own cc nL ret Qc n (a0 :: a1 :: a2 :: a3 :: some (.int v) :: r) st M L) : Tm g d own cc nL ret Qc pc (a0 :: a1 :: a2 :: a3 :: some (.int x) :: r) st M L := by
  subst hn
  intro p e s m args below meth c H locs ls C hl hP hS
  obtain ⟨kk, hkk⟩ := List.mem_iff_getElem?.mp ((alF_mem (a0 :: a1 :: a2 :: a3 :: some (.int x) :: r) 0 4 (.int x)).mpr ⟨Nat.zero_le _, rfl⟩)
  refine lv_iinc (v := v) C.1 C.2.1 hdg hl.has hkk hv hk rfl (fun ls' h' => k p e s m args below meth c H locs ls' C (PL.put (keeps_set (l := a0 :: a1 :: a2 :: a3 :: some (.int x) :: r) (i := 4) (v := .int v) (fun j w e q => by
    have : j = 3 := by omega
    subst this
    simp at q
    subst q
    exact n2_not h2)) h') hP hS)
theorem tm_lstore_4 {a0 a1 a2 a3 : Option Value} {b b2 : Option Value} {r : List (Option Value)} {x : Int64} (hk : 5 < nL) (h2 : n2 a3 = true) (n : Nat) (hn : pc + 2 = n) (hdg : decode cc pc = .ok (.lstore 4, 2)) (k : Tm g d own cc nL ret Qc n (a0 :: a1 :: a2 :: a3 :: some (.long x) :: none :: r) st M L) : Tm g d own cc nL ret Qc pc (a0 :: a1 :: a2 :: a3 :: b :: b2 :: r) (.long x :: st) M L := by
  subst hn
  intro p e s m args below meth c H locs ls C hl hP hS
  refine lv_lstore C.1 C.2.1 hdg hl.has hk rfl (fun ls' h' => k p e s m args below meth c H locs ls' C (PL.put2 (keeps_set2 (l := a0 :: a1 :: a2 :: a3 :: b :: b2 :: r) (i := 4) (v := .long x) (fun j w e q => by
    have : j = 3 := by omega
    subst this
    simp at q
    subst q
    exact n2_not h2)) h') hP hS)
theorem tm_iload_5 {a0 a1 a2 a3 a4 : Option Value} {r : List (Option Value)} {x : Int32} (n : Nat) (hn : pc + 2 = n) (hdg : decode cc pc = .ok (.iload 5, 2)) (k : Tm g d own cc nL ret Qc n (a0 :: a1 :: a2 :: a3 :: a4 :: some (.int x) :: r) (.int x :: st) M L) : Tm g d own cc nL ret Qc pc (a0 :: a1 :: a2 :: a3 :: a4 :: some (.int x) :: r) st M L := by
  subst hn
  exact fun p e s m args below meth c H locs ls C hl hP hS => lv_iload C.1 C.2.1 hdg (hl.2.2 5 _ rfl) (k p e s m args below meth c H locs ls C hl hP hS)
theorem tm_lload_5 {a0 a1 a2 a3 a4 : Option Value} {r : List (Option Value)} {x : Int64} (n : Nat) (hn : pc + 2 = n) (hdg : decode cc pc = .ok (.lload 5, 2)) (k : Tm g d own cc nL ret Qc n (a0 :: a1 :: a2 :: a3 :: a4 :: some (.long x) :: r) (.long x :: st) M L) : Tm g d own cc nL ret Qc pc (a0 :: a1 :: a2 :: a3 :: a4 :: some (.long x) :: r) st M L := by
  subst hn
  exact fun p e s m args below meth c H locs ls C hl hP hS => lv_lload C.1 C.2.1 hdg (hl.2.2 5 _ rfl) (k p e s m args below meth c H locs ls C hl hP hS)
theorem tm_aload_5 {a0 a1 a2 a3 a4 : Option Value} {r : List (Option Value)} {x : Nat} (n : Nat) (hn : pc + 2 = n) (hdg : decode cc pc = .ok (.aload 5, 2)) (k : Tm g d own cc nL ret Qc n (a0 :: a1 :: a2 :: a3 :: a4 :: some (.ref x) :: r) (.ref x :: st) M L) : Tm g d own cc nL ret Qc pc (a0 :: a1 :: a2 :: a3 :: a4 :: some (.ref x) :: r) st M L := by
  subst hn
  exact fun p e s m args below meth c H locs ls C hl hP hS => lv_aload C.1 C.2.1 hdg (hl.2.2 5 _ rfl) (k p e s m args below meth c H locs ls C hl hP hS)
theorem tm_istore_5 {a0 a1 a2 a3 a4 : Option Value} {b : Option Value} {r : List (Option Value)} {x : Int32} (hk : 5 < nL) (h2 : n2 a4 = true) (n : Nat) (hn : pc + 2 = n) (hdg : decode cc pc = .ok (.istore 5, 2)) (k : Tm g d own cc nL ret Qc n (a0 :: a1 :: a2 :: a3 :: a4 :: some (.int x) :: r) st M L) : Tm g d own cc nL ret Qc pc (a0 :: a1 :: a2 :: a3 :: a4 :: b :: r) (.int x :: st) M L := by
  subst hn
  intro p e s m args below meth c H locs ls C hl hP hS
  refine lv_istore C.1 C.2.1 hdg hl.has hk rfl (fun ls' h' => k p e s m args below meth c H locs ls' C (PL.put (keeps_set (l := a0 :: a1 :: a2 :: a3 :: a4 :: b :: r) (i := 5) (v := .int x) (fun j w e q => by
    have : j = 4 := by omega
    subst this
    simp at q
    subst q
    exact n2_not h2)) h') hP hS)
theorem tm_astore_5 {a0 a1 a2 a3 a4 : Option Value} {b : Option Value} {r : List (Option Value)} {x : Nat} (hk : 5 < nL) (h2 : n2 a4 = true) (n : Nat) (hn : pc + 2 = n) (hdg : decode cc pc = .ok (.astore 5, 2)) (k : Tm g d own cc nL ret Qc n (a0 :: a1 :: a2 :: a3 :: a4 :: some (.ref x) :: r) st M L) : Tm g d own cc nL ret Qc pc (a0 :: a1 :: a2 :: a3 :: a4 :: b :: r) (.ref x :: st) M L := by
  subst hn
  intro p e s m args below meth c H locs ls C hl hP hS
  refine lv_astore C.1 C.2.1 hdg hl.has hk rfl (fun ls' h' => k p e s m args below meth c H locs ls' C (PL.put (keeps_set (l := a0 :: a1 :: a2 :: a3 :: a4 :: b :: r) (i := 5) (v := .ref x) (fun j w e q => by
    have : j = 4 := by omega
    subst this
    simp at q
    subst q
    exact n2_not h2)) h') hP hS)
theorem tm_iinc_5 {a0 a1 a2 a3 a4 : Option Value} {r : List (Option Value)} {x : Int32} {z : Int} (v : Int32) (hv : x + Int32.ofInt z = v) (hk : 5 < nL) (h2 : n2 a4 = true) (n : Nat) (hn : pc + 3 = n) (hdg : decode cc pc = .ok (.iinc 5 z, 3)) (k : Tm g d own cc nL ret Qc n (a0 :: a1 :: a2 :: a3 :: a4 :: some (.int v) :: r) st M L) : Tm g d own cc nL ret Qc pc (a0 :: a1 :: a2 :: a3 :: a4 :: some (.int x) :: r) st M L := by
  subst hn
  intro p e s m args below meth c H locs ls C hl hP hS
  obtain ⟨kk, hkk⟩ := List.mem_iff_getElem?.mp ((alF_mem (a0 :: a1 :: a2 :: a3 :: a4 :: some (.int x) :: r) 0 5 (.int x)).mpr ⟨Nat.zero_le _, rfl⟩)
  refine lv_iinc (v := v) C.1 C.2.1 hdg hl.has hkk hv hk rfl (fun ls' h' => k p e s m args below meth c H locs ls' C (PL.put (keeps_set (l := a0 :: a1 :: a2 :: a3 :: a4 :: some (.int x) :: r) (i := 5) (v := .int v) (fun j w e q => by
    have : j = 4 := by omega
    subst this
    simp at q
    subst q
    exact n2_not h2)) h') hP hS)
theorem tm_lstore_5 {a0 a1 a2 a3 a4 : Option Value} {b b2 : Option Value} {r : List (Option Value)} {x : Int64} (hk : 6 < nL) (h2 : n2 a4 = true) (n : Nat) (hn : pc + 2 = n) (hdg : decode cc pc = .ok (.lstore 5, 2)) (k : Tm g d own cc nL ret Qc n (a0 :: a1 :: a2 :: a3 :: a4 :: some (.long x) :: none :: r) st M L) : Tm g d own cc nL ret Qc pc (a0 :: a1 :: a2 :: a3 :: a4 :: b :: b2 :: r) (.long x :: st) M L := by
  subst hn
  intro p e s m args below meth c H locs ls C hl hP hS
  refine lv_lstore C.1 C.2.1 hdg hl.has hk rfl (fun ls' h' => k p e s m args below meth c H locs ls' C (PL.put2 (keeps_set2 (l := a0 :: a1 :: a2 :: a3 :: a4 :: b :: b2 :: r) (i := 5) (v := .long x) (fun j w e q => by
    have : j = 4 := by omega
    subst this
    simp at q
    subst q
    exact n2_not h2)) h') hP hS)
theorem tm_iload_6 {a0 a1 a2 a3 a4 a5 : Option Value} {r : List (Option Value)} {x : Int32} (n : Nat) (hn : pc + 2 = n) (hdg : decode cc pc = .ok (.iload 6, 2)) (k : Tm g d own cc nL ret Qc n (a0 :: a1 :: a2 :: a3 :: a4 :: a5 :: some (.int x) :: r) (.int x :: st) M L) : Tm g d own cc nL ret Qc pc (a0 :: a1 :: a2 :: a3 :: a4 :: a5 :: some (.int x) :: r) st M L := by
  subst hn
  exact fun p e s m args below meth c H locs ls C hl hP hS => lv_iload C.1 C.2.1 hdg (hl.2.2 6 _ rfl) (k p e s m args below meth c H locs ls C hl hP hS)
theorem tm_lload_6 {a0 a1 a2 a3 a4 a5 : Option Value} {r : List (Option Value)} {x : Int64} (n : Nat) (hn : pc + 2 = n) (hdg : decode cc pc = .ok (.lload 6, 2)) (k : Tm g d own cc nL ret Qc n (a0 :: a1 :: a2 :: a3 :: a4 :: a5 :: some (.long x) :: r) (.long x :: st) M L) : Tm g d own cc nL ret Qc pc (a0 :: a1 :: a2 :: a3 :: a4 :: a5 :: some (.long x) :: r) st M L := by
  subst hn
  exact fun p e s m args below meth c H locs ls C hl hP hS => lv_lload C.1 C.2.1 hdg (hl.2.2 6 _ rfl) (k p e s m args below meth c H locs ls C hl hP hS)
theorem tm_aload_6 {a0 a1 a2 a3 a4 a5 : Option Value} {r : List (Option Value)} {x : Nat} (n : Nat) (hn : pc + 2 = n) (hdg : decode cc pc = .ok (.aload 6, 2)) (k : Tm g d own cc nL ret Qc n (a0 :: a1 :: a2 :: a3 :: a4 :: a5 :: some (.ref x) :: r) (.ref x :: st) M L) : Tm g d own cc nL ret Qc pc (a0 :: a1 :: a2 :: a3 :: a4 :: a5 :: some (.ref x) :: r) st M L := by
  subst hn
  exact fun p e s m args below meth c H locs ls C hl hP hS => lv_aload C.1 C.2.1 hdg (hl.2.2 6 _ rfl) (k p e s m args below meth c H locs ls C hl hP hS)
theorem tm_istore_6 {a0 a1 a2 a3 a4 a5 : Option Value} {b : Option Value} {r : List (Option Value)} {x : Int32} (hk : 6 < nL) (h2 : n2 a5 = true) (n : Nat) (hn : pc + 2 = n) (hdg : decode cc pc = .ok (.istore 6, 2)) (k : Tm g d own cc nL ret Qc n (a0 :: a1 :: a2 :: a3 :: a4 :: a5 :: some (.int x) :: r) st M L) : Tm g d own cc nL ret Qc pc (a0 :: a1 :: a2 :: a3 :: a4 :: a5 :: b :: r) (.int x :: st) M L := by
  subst hn
  intro p e s m args below meth c H locs ls C hl hP hS
  refine lv_istore C.1 C.2.1 hdg hl.has hk rfl (fun ls' h' => k p e s m args below meth c H locs ls' C (PL.put (keeps_set (l := a0 :: a1 :: a2 :: a3 :: a4 :: a5 :: b :: r) (i := 6) (v := .int x) (fun j w e q => by
    have : j = 5 := by omega
    subst this
    simp at q
    subst q
    exact n2_not h2)) h') hP hS)
theorem tm_astore_6 {a0 a1 a2 a3 a4 a5 : Option Value} {b : Option Value} {r : List (Option Value)} {x : Nat} (hk : 6 < nL) (h2 : n2 a5 = true) (n : Nat) (hn : pc + 2 = n) (hdg : decode cc pc = .ok (.astore 6, 2)) (k : Tm g d own cc nL ret Qc n (a0 :: a1 :: a2 :: a3 :: a4 :: a5 :: some (.ref x) :: r) st M L) : Tm g d own cc nL ret Qc pc (a0 :: a1 :: a2 :: a3 :: a4 :: a5 :: b :: r) (.ref x :: st) M L := by
  subst hn
  intro p e s m args below meth c H locs ls C hl hP hS
  refine lv_astore C.1 C.2.1 hdg hl.has hk rfl (fun ls' h' => k p e s m args below meth c H locs ls' C (PL.put (keeps_set (l := a0 :: a1 :: a2 :: a3 :: a4 :: a5 :: b :: r) (i := 6) (v := .ref x) (fun j w e q => by
    have : j = 5 := by omega
    subst this
    simp at q
    subst q
    exact n2_not h2)) h') hP hS)
theorem tm_iinc_6 {a0 a1 a2 a3 a4 a5 : Option Value} {r : List (Option Value)} {x : Int32} {z : Int} (v : Int32) (hv : x + Int32.ofInt z = v) (hk : 6 < nL) (h2 : n2 a5 = true) (n : Nat) (hn : pc + 3 = n) (hdg : decode cc pc = .ok (.iinc 6 z, 3)) (k : Tm g d own cc nL ret Qc n (a0 :: a1 :: a2 :: a3 :: a4 :: a5 :: some (.int v) :: r) st M L) : Tm g d own cc nL ret Qc pc (a0 :: a1 :: a2 :: a3 :: a4 :: a5 :: some (.int x) :: r) st M L := by
  subst hn
  intro p e s m args below meth c H locs ls C hl hP hS
  obtain ⟨kk, hkk⟩ := List.mem_iff_getElem?.mp ((alF_mem (a0 :: a1 :: a2 :: a3 :: a4 :: a5 :: some (.int x) :: r) 0 6 (.int x)).mpr ⟨Nat.zero_le _, rfl⟩)
  refine lv_iinc (v := v) C.1 C.2.1 hdg hl.has hkk hv hk rfl (fun ls' h' => k p e s m args below meth c H locs ls' C (PL.put (keeps_set (l := a0 :: a1 :: a2 :: a3 :: a4 :: a5 :: some (.int x) :: r) (i := 6) (v := .int v) (fun j w e q => by
    have : j = 5 := by omega
    subst this
    simp at q
    subst q
    exact n2_not h2)) h') hP hS)
theorem tm_lstore_6 {a0 a1 a2 a3 a4 a5 : Option Value} {b b2 : Option Value} {r : List (Option Value)} {x : Int64} (hk : 7 < nL) (h2 : n2 a5 = true) (n : Nat) (hn : pc + 2 = n) (hdg : decode cc pc = .ok (.lstore 6, 2)) (k : Tm g d own cc nL ret Qc n (a0 :: a1 :: a2 :: a3 :: a4 :: a5 :: some (.long x) :: none :: r) st M L) : Tm g d own cc nL ret Qc pc (a0 :: a1 :: a2 :: a3 :: a4 :: a5 :: b :: b2 :: r) (.long x :: st) M L := by
  subst hn
  intro p e s m args below meth c H locs ls C hl hP hS
  refine lv_lstore C.1 C.2.1 hdg hl.has hk rfl (fun ls' h' => k p e s m args below meth c H locs ls' C (PL.put2 (keeps_set2 (l := a0 :: a1 :: a2 :: a3 :: a4 :: a5 :: b :: b2 :: r) (i := 6) (v := .long x) (fun j w e q => by
    have : j = 5 := by omega
    subst this
    simp at q
    subst q
    exact n2_not h2)) h') hP hS)
theorem tm_iload_7 {a0 a1 a2 a3 a4 a5 a6 : Option Value} {r : List (Option Value)} {x : Int32} (n : Nat) (hn : pc + 2 = n) (hdg : decode cc pc = .ok (.iload 7, 2)) (k : Tm g d own cc nL ret Qc n (a0 :: a1 :: a2 :: a3 :: a4 :: a5 :: a6 :: some (.int x) :: r) (.int x :: st) M L) : Tm g d own cc nL ret Qc pc (a0 :: a1 :: a2 :: a3 :: a4 :: a5 :: a6 :: some (.int x) :: r) st M L := by
  subst hn
  exact fun p e s m args below meth c H locs ls C hl hP hS => lv_iload C.1 C.2.1 hdg (hl.2.2 7 _ rfl) (k p e s m args below meth c H locs ls C hl hP hS)
theorem tm_lload_7 {a0 a1 a2 a3 a4 a5 a6 : Option Value} {r : List (Option Value)} {x : Int64} (n : Nat) (hn : pc + 2 = n) (hdg : decode cc pc = .ok (.lload 7, 2)) (k : Tm g d own cc nL ret Qc n (a0 :: a1 :: a2 :: a3 :: a4 :: a5 :: a6 :: some (.long x) :: r) (.long x :: st) M L) : Tm g d own cc nL ret Qc pc (a0 :: a1 :: a2 :: a3 :: a4 :: a5 :: a6 :: some (.long x) :: r) st M L := by
  subst hn
  exact fun p e s m args below meth c H locs ls C hl hP hS => lv_lload C.1 C.2.1 hdg (hl.2.2 7 _ rfl) (k p e s m args below meth c H locs ls C hl hP hS)
theorem tm_aload_7 {a0 a1 a2 a3 a4 a5 a6 : Option Value} {r : List (Option Value)} {x : Nat} (n : Nat) (hn : pc + 2 = n) (hdg : decode cc pc = .ok (.aload 7, 2)) (k : Tm g d own cc nL ret Qc n (a0 :: a1 :: a2 :: a3 :: a4 :: a5 :: a6 :: some (.ref x) :: r) (.ref x :: st) M L) : Tm g d own cc nL ret Qc pc (a0 :: a1 :: a2 :: a3 :: a4 :: a5 :: a6 :: some (.ref x) :: r) st M L := by
  subst hn
  exact fun p e s m args below meth c H locs ls C hl hP hS => lv_aload C.1 C.2.1 hdg (hl.2.2 7 _ rfl) (k p e s m args below meth c H locs ls C hl hP hS)
theorem tm_istore_7 {a0 a1 a2 a3 a4 a5 a6 : Option Value} {b : Option Value} {r : List (Option Value)} {x : Int32} (hk : 7 < nL) (h2 : n2 a6 = true) (n : Nat) (hn : pc + 2 = n) (hdg : decode cc pc = .ok (.istore 7, 2)) (k : Tm g d own cc nL ret Qc n (a0 :: a1 :: a2 :: a3 :: a4 :: a5 :: a6 :: some (.int x) :: r) st M L) : Tm g d own cc nL ret Qc pc (a0 :: a1 :: a2 :: a3 :: a4 :: a5 :: a6 :: b :: r) (.int x :: st) M L := by
  subst hn
  intro p e s m args below meth c H locs ls C hl hP hS
  refine lv_istore C.1 C.2.1 hdg hl.has hk rfl (fun ls' h' => k p e s m args below meth c H locs ls' C (PL.put (keeps_set (l := a0 :: a1 :: a2 :: a3 :: a4 :: a5 :: a6 :: b :: r) (i := 7) (v := .int x) (fun j w e q => by
    have : j = 6 := by omega
    subst this
    simp at q
    subst q
    exact n2_not h2)) h') hP hS)
theorem tm_astore_7 {a0 a1 a2 a3 a4 a5 a6 : Option Value} {b : Option Value} {r : List (Option Value)} {x : Nat} (hk : 7 < nL) (h2 : n2 a6 = true) (n : Nat) (hn : pc + 2 = n) (hdg : decode cc pc = .ok (.astore 7, 2)) (k : Tm g d own cc nL ret Qc n (a0 :: a1 :: a2 :: a3 :: a4 :: a5 :: a6 :: some (.ref x) :: r) st M L) : Tm g d own cc nL ret Qc pc (a0 :: a1 :: a2 :: a3 :: a4 :: a5 :: a6 :: b :: r) (.ref x :: st) M L := by
  subst hn
  intro p e s m args below meth c H locs ls C hl hP hS
  refine lv_astore C.1 C.2.1 hdg hl.has hk rfl (fun ls' h' => k p e s m args below meth c H locs ls' C (PL.put (keeps_set (l := a0 :: a1 :: a2 :: a3 :: a4 :: a5 :: a6 :: b :: r) (i := 7) (v := .ref x) (fun j w e q => by
    have : j = 6 := by omega
    subst this
    simp at q
    subst q
    exact n2_not h2)) h') hP hS)
theorem tm_iinc_7 {a0 a1 a2 a3 a4 a5 a6 : Option Value} {r : List (Option Value)} {x : Int32} {z : Int} (v : Int32) (hv : x + Int32.ofInt z = v) (hk : 7 < nL) (h2 : n2 a6 = true) (n : Nat) (hn : pc + 3 = n) (hdg : decode cc pc = .ok (.iinc 7 z, 3)) (k : Tm g d own cc nL ret Qc n (a0 :: a1 :: a2 :: a3 :: a4 :: a5 :: a6 :: some (.int v) :: r) st M L) : Tm g d own cc nL ret Qc pc (a0 :: a1 :: a2 :: a3 :: a4 :: a5 :: a6 :: some (.int x) :: r) st M L := by
  subst hn
  intro p e s m args below meth c H locs ls C hl hP hS
  obtain ⟨kk, hkk⟩ := List.mem_iff_getElem?.mp ((alF_mem (a0 :: a1 :: a2 :: a3 :: a4 :: a5 :: a6 :: some (.int x) :: r) 0 7 (.int x)).mpr ⟨Nat.zero_le _, rfl⟩)
  refine lv_iinc (v := v) C.1 C.2.1 hdg hl.has hkk hv hk rfl (fun ls' h' => k p e s m args below meth c H locs ls' C (PL.put (keeps_set (l := a0 :: a1 :: a2 :: a3 :: a4 :: a5 :: a6 :: some (.int x) :: r) (i := 7) (v := .int v) (fun j w e q => by
    have : j = 6 := by omega
    subst this
    simp at q
    subst q
    exact n2_not h2)) h') hP hS)
theorem tm_lstore_7 {a0 a1 a2 a3 a4 a5 a6 : Option Value} {b b2 : Option Value} {r : List (Option Value)} {x : Int64} (hk : 8 < nL) (h2 : n2 a6 = true) (n : Nat) (hn : pc + 2 = n) (hdg : decode cc pc = .ok (.lstore 7, 2)) (k : Tm g d own cc nL ret Qc n (a0 :: a1 :: a2 :: a3 :: a4 :: a5 :: a6 :: some (.long x) :: none :: r) st M L) : Tm g d own cc nL ret Qc pc (a0 :: a1 :: a2 :: a3 :: a4 :: a5 :: a6 :: b :: b2 :: r) (.long x :: st) M L := by
  subst hn
  intro p e s m args below meth c H locs ls C hl hP hS
  refine lv_lstore C.1 C.2.1 hdg hl.has hk rfl (fun ls' h' => k p e s m args below meth c H locs ls' C (PL.put2 (keeps_set2 (l := a0 :: a1 :: a2 :: a3 :: a4 :: a5 :: a6 :: b :: b2 :: r) (i := 7) (v := .long x) (fun j w e q => by
    have : j = 6 := by omega
    subst this
    simp at q
    subst q
    exact n2_not h2)) h') hP hS)
theorem tm_iload_8 {a0 a1 a2 a3 a4 a5 a6 a7 : Option Value} {r : List (Option Value)} {x : Int32} (n : Nat) (hn : pc + 2 = n) (hdg : decode cc pc = .ok (.iload 8, 2)) (k : Tm g d own cc nL ret Qc n (a0 :: a1 :: a2 :: a3 :: a4 :: a5 :: a6 :: a7 :: some (.int x) :: r) (.int x :: st) M L) : Tm g d own cc nL ret Qc pc (a0 :: a1 :: a2 :: a3 :: a4 :: a5 :: a6 :: a7 :: some (.int x) :: r) st M L := by
  subst hn
  exact fun p e s m args below meth c H locs ls C hl hP hS => lv_iload C.1 C.2.1 hdg (hl.2.2 8 _ rfl) (k p e s m args below meth c H locs ls C hl hP hS)
theorem tm_lload_8 {a0 a1 a2 a3 a4 a5 a6 a7 : Option Value} {r : List (Option Value)} {x : Int64} (n : Nat) (hn : pc + 2 = n) (hdg : decode cc pc = .ok (.lload 8, 2)) (k : Tm g d own cc nL ret Qc n (a0 :: a1 :: a2 :: a3 :: a4 :: a5 :: a6 :: a7 :: some (.long x) :: r) (.long x :: st) M L) : Tm g d own cc nL ret Qc pc (a0 :: a1 :: a2 :: a3 :: a4 :: a5 :: a6 :: a7 :: some (.long x) :: r) st M L := by
  subst hn
  exact fun p e s m args below meth c H locs ls C hl hP hS => lv_lload C.1 C.2.1 hdg (hl.2.2 8 _ rfl) (k p e s m args below meth c H locs ls C hl hP hS)
theorem tm_aload_8 {a0 a1 a2 a3 a4 a5 a6 a7 : Option Value} {r : List (Option Value)} {x : Nat} (n : Nat) (hn : pc + 2 = n) (hdg : decode cc pc = .ok (.aload 8, 2)) (k : Tm g d own cc nL ret Qc n (a0 :: a1 :: a2 :: a3 :: a4 :: a5 :: a6 :: a7 :: some (.ref x) :: r) (.ref x :: st) M L) : Tm g d own cc nL ret Qc pc (a0 :: a1 :: a2 :: a3 :: a4 :: a5 :: a6 :: a7 :: some (.ref x) :: r) st M L := by
  subst hn
  exact fun p e s m args below meth c H locs ls C hl hP hS => lv_aload C.1 C.2.1 hdg (hl.2.2 8 _ rfl) (k p e s m args below meth c H locs ls C hl hP hS)
theorem tm_istore_8 {a0 a1 a2 a3 a4 a5 a6 a7 : Option Value} {b : Option Value} {r : List (Option Value)} {x : Int32} (hk : 8 < nL) (h2 : n2 a7 = true) (n : Nat) (hn : pc + 2 = n) (hdg : decode cc pc = .ok (.istore 8, 2)) (k : Tm g d own cc nL ret Qc n (a0 :: a1 :: a2 :: a3 :: a4 :: a5 :: a6 :: a7 :: some (.int x) :: r) st M L) : Tm g d own cc nL ret Qc pc (a0 :: a1 :: a2 :: a3 :: a4 :: a5 :: a6 :: a7 :: b :: r) (.int x :: st) M L := by
  subst hn
  intro p e s m args below meth c H locs ls C hl hP hS
  refine lv_istore C.1 C.2.1 hdg hl.has hk rfl (fun ls' h' => k p e s m args below meth c H locs ls' C (PL.put (keeps_set (l := a0 :: a1 :: a2 :: a3 :: a4 :: a5 :: a6 :: a7 :: b :: r) (i := 8) (v := .int x) (fun j w e q => by
    have : j = 7 := by omega
    subst this
    simp at q
    subst q
    exact n2_not h2)) h') hP hS)
theorem tm_astore_8 {a0 a1 a2 a3 a4 a5 a6 a7 : Option Value} {b : Option Value} {r : List (Option Value)} {x : Nat} (hk : 8 < nL) (h2 : n2 a7 = true) (n : Nat) (hn : pc + 2 = n) (hdg : decode cc pc = .ok (.astore 8, 2)) (k : Tm g d own cc nL ret Qc n (a0 :: a1 :: a2 :: a3 :: a4 :: a5 :: a6 :: a7 :: some (.ref x) :: r) st M L) : Tm g d own cc nL ret Qc pc (a0 :: a1 :: a2 :: a3 :: a4 :: a5 :: a6 :: a7 :: b :: r) (.ref x :: st) M L := by
  subst hn
  intro p e s m args below meth c H locs ls C hl hP hS
  refine lv_astore C.1 C.2.1 hdg hl.has hk rfl (fun ls' h' => k p e s m args below meth c H locs ls' C (PL.put (keeps_set (l := a0 :: a1 :: a2 :: a3 :: a4 :: a5 :: a6 :: a7 :: b :: r) (i := 8) (v := .ref x) (fun j w e q => by
    have : j = 7 := by omega
    subst this
    simp at q
    subst q
    exact n2_not h2)) h') hP hS)
theorem tm_iinc_8 {a0 a1 a2 a3 a4 a5 a6 a7 : Option Value} {r : List (Option Value)} {x : Int32} {z : Int} (v : Int32) (hv : x + Int32.ofInt z = v) (hk : 8 < nL) (h2 : n2 a7 = true) (n : Nat) (hn : pc + 3 = n) (hdg : decode cc pc = .ok (.iinc 8 z, 3)) (k : Tm g d own cc nL ret Qc n (a0 :: a1 :: a2 :: a3 :: a4 :: a5 :: a6 :: a7 :: some (.int v) :: r) st M L) : Tm g d own cc nL ret Qc pc (a0 :: a1 :: a2 :: a3 :: a4 :: a5 :: a6 :: a7 :: some (.int x) :: r) st M L := by
  subst hn
  intro p e s m args below meth c H locs ls C hl hP hS
  obtain ⟨kk, hkk⟩ := List.mem_iff_getElem?.mp ((alF_mem (a0 :: a1 :: a2 :: a3 :: a4 :: a5 :: a6 :: a7 :: some (.int x) :: r) 0 8 (.int x)).mpr ⟨Nat.zero_le _, rfl⟩)
  refine lv_iinc (v := v) C.1 C.2.1 hdg hl.has hkk hv hk rfl (fun ls' h' => k p e s m args below meth c H locs ls' C (PL.put (keeps_set (l := a0 :: a1 :: a2 :: a3 :: a4 :: a5 :: a6 :: a7 :: some (.int x) :: r) (i := 8) (v := .int v) (fun j w e q => by
    have : j = 7 := by omega
    subst this
    simp at q
    subst q
    exact n2_not h2)) h') hP hS)
theorem tm_lstore_8 {a0 a1 a2 a3 a4 a5 a6 a7 : Option Value} {b b2 : Option Value} {r : List (Option Value)} {x : Int64} (hk : 9 < nL) (h2 : n2 a7 = true) (n : Nat) (hn : pc + 2 = n) (hdg : decode cc pc = .ok (.lstore 8, 2)) (k : Tm g d own cc nL ret Qc n (a0 :: a1 :: a2 :: a3 :: a4 :: a5 :: a6 :: a7 :: some (.long x) :: none :: r) st M L) : Tm g d own cc nL ret Qc pc (a0 :: a1 :: a2 :: a3 :: a4 :: a5 :: a6 :: a7 :: b :: b2 :: r) (.long x :: st) M L := by
  subst hn
  intro p e s m args below meth c H locs ls C hl hP hS
  refine lv_lstore C.1 C.2.1 hdg hl.has hk rfl (fun ls' h' => k p e s m args below meth c H locs ls' C (PL.put2 (keeps_set2 (l := a0 :: a1 :: a2 :: a3 :: a4 :: a5 :: a6 :: a7 :: b :: b2 :: r) (i := 8) (v := .long x) (fun j w e q => by
    have : j = 7 := by omega
    subst this
    simp at q
    subst q
    exact n2_not h2)) h') hP hS)
theorem tm_iload_9 {a0 a1 a2 a3 a4 a5 a6 a7 a8 : Option Value} {r : List (Option Value)} {x : Int32} (n : Nat) (hn : pc + 2 = n) (hdg : decode cc pc = .ok (.iload 9, 2)) (k : Tm g d own cc nL ret Qc n (a0 :: a1 :: a2 :: a3 :: a4 :: a5 :: a6 :: a7 :: a8 :: some (.int x) :: r) (.int x :: st) M L) : Tm g d own cc nL ret Qc pc (a0 :: a1 :: a2 :: a3 :: a4 :: a5 :: a6 :: a7 :: a8 :: some (.int x) :: r) st M L := by
  subst hn
  exact fun p e s m args below meth c H locs ls C hl hP hS => lv_iload C.1 C.2.1 hdg (hl.2.2 9 _ rfl) (k p e s m args below meth c H locs ls C hl hP hS)
theorem tm_lload_9 {a0 a1 a2 a3 a4 a5 a6 a7 a8 : Option Value} {r : List (Option Value)} {x : Int64} (n : Nat) (hn : pc + 2 = n) (hdg : decode cc pc = .ok (.lload 9, 2)) (k : Tm g d own cc nL ret Qc n (a0 :: a1 :: a2 :: a3 :: a4 :: a5 :: a6 :: a7 :: a8 :: some (.long x) :: r) (.long x :: st) M L) : Tm g d own cc nL ret Qc pc (a0 :: a1 :: a2 :: a3 :: a4 :: a5 :: a6 :: a7 :: a8 :: some (.long x) :: r) st M L := by
  subst hn
  exact fun p e s m args below meth c H locs ls C hl hP hS => lv_lload C.1 C.2.1 hdg (hl.2.2 9 _ rfl) (k p e s m args below meth c H locs ls C hl hP hS)
theorem tm_aload_9 {a0 a1 a2 a3 a4 a5 a6 a7 a8 : Option Value} {r : List (Option Value)} {x : Nat} (n : Nat) (hn : pc + 2 = n) (hdg : decode cc pc = .ok (.aload 9, 2)) (k : Tm g d own cc nL ret Qc n (a0 :: a1 :: a2 :: a3 :: a4 :: a5 :: a6 :: a7 :: a8 :: some (.ref x) :: r) (.ref x :: st) M L) : Tm g d own cc nL ret Qc pc (a0 :: a1 :: a2 :: a3 :: a4 :: a5 :: a6 :: a7 :: a8 :: some (.ref x) :: r) st M L := by
  subst hn
  exact fun p e s m args below meth c H locs ls C hl hP hS => lv_aload C.1 C.2.1 hdg (hl.2.2 9 _ rfl) (k p e s m args below meth c H locs ls C hl hP hS)
theorem tm_istore_9 {a0 a1 a2 a3 a4 a5 a6 a7 a8 : Option Value} {b : Option Value} {r : List (Option Value)} {x : Int32} (hk : 9 < nL) (h2 : n2 a8 = true) (n : Nat) (hn : pc + 2 = n) (hdg : decode cc pc = .ok (.istore 9, 2)) (k : Tm g d own cc nL ret Qc n (a0 :: a1 :: a2 :: a3 :: a4 :: a5 :: a6 :: a7 :: a8 :: some (.int x) :: r) st M L) : Tm g d own cc nL ret Qc pc (a0 :: a1 :: a2 :: a3 :: a4 :: a5 :: a6 :: a7 :: a8 :: b :: r) (.int x :: st) M L := by
  subst hn
  intro p e s m args below meth c H locs ls C hl hP hS
  refine lv_istore C.1 C.2.1 hdg hl.has hk rfl (fun ls' h' => k p e s m args below meth c H locs ls' C (PL.put (keeps_set (l := a0 :: a1 :: a2 :: a3 :: a4 :: a5 :: a6 :: a7 :: a8 :: b :: r) (i := 9) (v := .int x) (fun j w e q => by
    have : j = 8 := by omega
    subst this
    simp at q
    subst q
    exact n2_not h2)) h') hP hS)
theorem tm_astore_9 {a0 a1 a2 a3 a4 a5 a6 a7 a8 : Option Value} {b : Option Value} {r : List (Option Value)} {x : Nat} (hk : 9 < nL) (h2 : n2 a8 = true) (n : Nat) (hn : pc + 2 = n) (hdg : decode cc pc = .ok (.astore 9, 2)) (k : Tm g d own cc nL ret Qc n (a0 :: a1 :: a2 :: a3 :: a4 :: a5 :: a6 :: a7 :: a8 :: some (.ref x) :: r) st M L) : Tm g d own cc nL ret Qc pc (a0 :: a1 :: a2 :: a3 :: a4 :: a5 :: a6 :: a7 :: a8 :: b :: r) (.ref x :: st) M L := by
  subst hn
  intro p e s m args below meth c H locs ls C hl hP hS
  refine lv_astore C.1 C.2.1 hdg hl.has hk rfl (fun ls' h' => k p e s m args below meth c H locs ls' C (PL.put (keeps_set (l := a0 :: a1 :: a2 :: a3 :: a4 :: a5 :: a6 :: a7 :: a8 :: b :: r) (i := 9) (v := .ref x) (fun j w e q => by
    have : j = 8 := by omega
    subst this
    simp at q
    subst q
    exact n2_not h2)) h') hP hS)
theorem tm_iinc_9 {a0 a1 a2 a3 a4 a5 a6 a7 a8 : Option Value} {r : List (Option Value)} {x : Int32} {z : Int} (v : Int32) (hv : x + Int32.ofInt z = v) (hk : 9 < nL) (h2 : n2 a8 = true) (n : Nat) (hn : pc + 3 = n) (hdg : decode cc pc = .ok (.iinc 9 z, 3)) (k : Tm g d own cc nL ret Qc n (a0 :: a1 :: a2 :: a3 :: a4 :: a5 :: a6 :: a7 :: a8 :: some (.int v) :: r) st M L) : Tm g d own cc nL ret Qc pc (a0 :: a1 :: a2 :: a3 :: a4 :: a5 :: a6 :: a7 :: a8 :: some (.int x) :: r) st M L := by
  subst hn
  intro p e s m args below meth c H locs ls C hl hP hS
  obtain ⟨kk, hkk⟩ := List.mem_iff_getElem?.mp ((alF_mem (a0 :: a1 :: a2 :: a3 :: a4 :: a5 :: a6 :: a7 :: a8 :: some (.int x) :: r) 0 9 (.int x)).mpr ⟨Nat.zero_le _, rfl⟩)
  refine lv_iinc (v := v) C.1 C.2.1 hdg hl.has hkk hv hk rfl (fun ls' h' => k p e s m args below meth c H locs ls' C (PL.put (keeps_set (l := a0 :: a1 :: a2 :: a3 :: a4 :: a5 :: a6 :: a7 :: a8 :: some (.int x) :: r) (i := 9) (v := .int v) (fun j w e q => by
    have : j = 8 := by omega
    subst this
    simp at q
    subst q
    exact n2_not h2)) h') hP hS)
theorem tm_lstore_9 {a0 a1 a2 a3 a4 a5 a6 a7 a8 : Option Value} {b b2 : Option Value} {r : List (Option Value)} {x : Int64} (hk : 10 < nL) (h2 : n2 a8 = true) (n : Nat) (hn : pc + 2 = n) (hdg : decode cc pc = .ok (.lstore 9, 2)) (k : Tm g d own cc nL ret Qc n (a0 :: a1 :: a2 :: a3 :: a4 :: a5 :: a6 :: a7 :: a8 :: some (.long x) :: none :: r) st M L) : Tm g d own cc nL ret Qc pc (a0 :: a1 :: a2 :: a3 :: a4 :: a5 :: a6 :: a7 :: a8 :: b :: b2 :: r) (.long x :: st) M L := by
  subst hn
  intro p e s m args below meth c H locs ls C hl hP hS
  refine lv_lstore C.1 C.2.1 hdg hl.has hk rfl (fun ls' h' => k p e s m args below meth c H locs ls' C (PL.put2 (keeps_set2 (l := a0 :: a1 :: a2 :: a3 :: a4 :: a5 :: a6 :: a7 :: a8 :: b :: b2 :: r) (i := 9) (v := .long x) (fun j w e q => by
    have : j = 8 := by omega
    subst this
    simp at q
    subst q
    exact n2_not h2)) h') hP hS)
theorem tm_if_eq {x : Int32} {off : Int} (tgt n : Nat) (ht : (pc : Int) + off = (tgt : Int)) (hn : pc + 3 = n) (hdg : decode cc pc = .ok (.ifCond .eq off, 3)) (kt : x = 0 → Tm g d own cc nL ret Qc tgt l st M L) (kf : ¬ x = 0 → Tm g d own cc nL ret Qc n l st M L) : Tm g d own cc nL ret Qc pc l (.int x :: st) M L := by
  subst hn
  exact fun p e s m args below meth c H locs ls C hl hP hS => lv_if_eq C.1 C.2.1 hdg ht (fun q => kt q p e s m args below meth c H locs ls C hl hP hS) (fun q => kf q p e s m args below meth c H locs ls C hl hP hS)
theorem tm_if_eq_t {x : Int32} {off : Int} (tgt : Nat) (h : x = 0) (ht : (pc : Int) + off = (tgt : Int)) (hdg : decode cc pc = .ok (.ifCond .eq off, 3)) (kt : Tm g d own cc nL ret Qc tgt l st M L) : Tm g d own cc nL ret Qc pc l (.int x :: st) M L := tm_if_eq tgt _ ht rfl hdg (fun _ => kt) (fun q => absurd h q)
theorem tm_if_eq_f {x : Int32} {off : Int} (n : Nat) {tgt : Nat} (h : ¬ x = 0) (ht : (pc : Int) + off = (tgt : Int)) (hn : pc + 3 = n) (hdg : decode cc pc = .ok (.ifCond .eq off, 3)) (kf : Tm g d own cc nL ret Qc n l st M L) : Tm g d own cc nL ret Qc pc l (.int x :: st) M L := tm_if_eq tgt n ht hn hdg (fun q => absurd q h) (fun _ => kf)
theorem tm_icmp_eq {x y : Int32} {off : Int} (tgt n : Nat) (ht : (pc : Int) + off = (tgt : Int)) (hn : pc + 3 = n) (hdg : decode cc pc = .ok (.if_icmp .eq off, 3)) (kt : x = y → Tm g d own cc nL ret Qc tgt l st M L) (kf : ¬ x = y → Tm g d own cc nL ret Qc n l st M L) : Tm g d own cc nL ret Qc pc l (.int y :: .int x :: st) M L := by
  subst hn
  exact fun p e s m args below meth c H locs ls C hl hP hS => lv_icmp_eq C.1 C.2.1 hdg ht (fun q => kt q p e s m args below meth c H locs ls C hl hP hS) (fun q => kf q p e s m args below meth c H locs ls C hl hP hS)
theorem tm_icmp_eq_t {x y : Int32} {off : Int} (tgt : Nat) (h : x = y) (ht : (pc : Int) + off = (tgt : Int)) (hdg : decode cc pc = .ok (.if_icmp .eq off, 3)) (kt : Tm g d own cc nL ret Qc tgt l st M L) : Tm g d own cc nL ret Qc pc l (.int y :: .int x :: st) M L := tm_icmp_eq tgt _ ht rfl hdg (fun _ => kt) (fun q => absurd h q)
theorem tm_icmp_eq_f {x y : Int32} {off : Int} (n : Nat) {tgt : Nat} (h : ¬ x = y) (ht : (pc : Int) + off = (tgt : Int)) (hn : pc + 3 = n) (hdg : decode cc pc = .ok (.if_icmp .eq off, 3)) (kf : Tm g d own cc nL ret Qc n l st M L) : Tm g d own cc nL ret Qc pc l (.int y :: .int x :: st) M L := tm_icmp_eq tgt n ht hn hdg (fun q => absurd q h) (fun _ => kf)
theorem tm_if_ne {x : Int32} {off : Int} (tgt n : Nat) (ht : (pc : Int) + off = (tgt : Int)) (hn : pc + 3 = n) (hdg : decode cc pc = .ok (.ifCond .ne off, 3)) (kt : ¬ x = 0 → Tm g d own cc nL ret Qc tgt l st M L) (kf : x = 0 → Tm g d own cc nL ret Qc n l st M L) : Tm g d own cc nL ret Qc pc l (.int x :: st) M L := by
  subst hn
  exact fun p e s m args below meth c H locs ls C hl hP hS => lv_if_ne C.1 C.2.1 hdg ht (fun q => kt q p e s m args below meth c H locs ls C hl hP hS) (fun q => kf q p e s m args below meth c H locs ls C hl hP hS)
theorem tm_if_ne_t {x : Int32} {off : Int} (tgt : Nat) (h : ¬ x = 0) (ht : (pc : Int) + off = (tgt : Int)) (hdg : decode cc pc = .ok (.ifCond .ne off, 3)) (kt : Tm g d own cc nL ret Qc tgt l st M L) : Tm g d own cc nL ret Qc pc l (.int x :: st) M L := tm_if_ne tgt _ ht rfl hdg (fun _ => kt) (fun q => absurd q h)
theorem tm_if_ne_f {x : Int32} {off : Int} (n : Nat) {tgt : Nat} (h : x = 0) (ht : (pc : Int) + off = (tgt : Int)) (hn : pc + 3 = n) (hdg : decode cc pc = .ok (.ifCond .ne off, 3)) (kf : Tm g d own cc nL ret Qc n l st M L) : Tm g d own cc nL ret Qc pc l (.int x :: st) M L := tm_if_ne tgt n ht hn hdg (fun q => absurd h q) (fun _ => kf)
theorem tm_icmp_ne {x y : Int32} {off : Int} (tgt n : Nat) (ht : (pc : Int) + off = (tgt : Int)) (hn : pc + 3 = n) (hdg : decode cc pc = .ok (.if_icmp .ne off, 3)) (kt : ¬ x = y → Tm g d own cc nL ret Qc tgt l st M L) (kf : x = y → Tm g d own cc nL ret Qc n l st M L) : Tm g d own cc nL ret Qc pc l (.int y :: .int x :: st) M L := by
  subst hn
  exact fun p e s m args below meth c H locs ls C hl hP hS => lv_icmp_ne C.1 C.2.1 hdg ht (fun q => kt q p e s m args below meth c H locs ls C hl hP hS) (fun q => kf q p e s m args below meth c H locs ls C hl hP hS)
theorem tm_icmp_ne_t {x y : Int32} {off : Int} (tgt : Nat) (h : ¬ x = y) (ht : (pc : Int) + off = (tgt : Int)) (hdg : decode cc pc = .ok (.if_icmp .ne off, 3)) (kt : Tm g d own cc nL ret Qc tgt l st M L) : Tm g d own cc nL ret Qc pc l (.int y :: .int x :: st) M L := tm_icmp_ne tgt _ ht rfl hdg (fun _ => kt) (fun q => absurd q h)
theorem tm_icmp_ne_f {x y : Int32} {off : Int} (n : Nat) {tgt : Nat} (h : x = y) (ht : (pc : Int) + off = (tgt : Int)) (hn : pc + 3 = n) (hdg : decode cc pc = .ok (.if_icmp .ne off, 3)) (kf : Tm g d own cc nL ret Qc n l st M L) : Tm g d own cc nL ret Qc pc l (.int y :: .int x :: st) M L := tm_icmp_ne tgt n ht hn hdg (fun q => absurd h q) (fun _ => kf)
theorem tm_if_lt {x : Int32} {off : Int} (tgt n : Nat) (ht : (pc : Int) + off = (tgt : Int)) (hn : pc + 3 = n) (hdg : decode cc pc = .ok (.ifCond .lt off, 3)) (kt : x < 0 → Tm g d own cc nL ret Qc tgt l st M L) (kf : ¬ x < 0 → Tm g d own cc nL ret Qc n l st M L) : Tm g d own cc nL ret Qc pc l (.int x :: st) M L := by
  subst hn
  exact fun p e s m args below meth c H locs ls C hl hP hS => lv_if_lt C.1 C.2.1 hdg ht (fun q => kt q p e s m args below meth c H locs ls C hl hP hS) (fun q => kf q p e s m args below meth c H locs ls C hl hP hS)
theorem tm_if_lt_t {x : Int32} {off : Int} (tgt : Nat) (h : x < 0) (ht : (pc : Int) + off = (tgt : Int)) (hdg : decode cc pc = .ok (.ifCond .lt off, 3)) (kt : Tm g d own cc nL ret Qc tgt l st M L) : Tm g d own cc nL ret Qc pc l (.int x :: st) M L := tm_if_lt tgt _ ht rfl hdg (fun _ => kt) (fun q => absurd h q)
theorem tm_if_lt_f {x : Int32} {off : Int} (n : Nat) {tgt : Nat} (h : ¬ x < 0) (ht : (pc : Int) + off = (tgt : Int)) (hn : pc + 3 = n) (hdg : decode cc pc = .ok (.ifCond .lt off, 3)) (kf : Tm g d own cc nL ret Qc n l st M L) : Tm g d own cc nL ret Qc pc l (.int x :: st) M L := tm_if_lt tgt n ht hn hdg (fun q => absurd q h) (fun _ => kf)
theorem tm_icmp_lt {x y : Int32} {off : Int} (tgt n : Nat) (ht : (pc : Int) + off = (tgt : Int)) (hn : pc + 3 = n) (hdg : decode cc pc = .ok (.if_icmp .lt off, 3)) (kt : x < y → Tm g d own cc nL ret Qc tgt l st M L) (kf : ¬ x < y → Tm g d own cc nL ret Qc n l st M L) : Tm g d own cc nL ret Qc pc l (.int y :: .int x :: st) M L := by
  subst hn
  exact fun p e s m args below meth c H locs ls C hl hP hS => lv_icmp_lt C.1 C.2.1 hdg ht (fun q => kt q p e s m args below meth c H locs ls C hl hP hS) (fun q => kf q p e s m args below meth c H locs ls C hl hP hS)
theorem tm_icmp_lt_t {x y : Int32} {off : Int} (tgt : Nat) (h : x < y) (ht : (pc : Int) + off = (tgt : Int)) (hdg : decode cc pc = .ok (.if_icmp .lt off, 3)) (kt : Tm g d own cc nL ret Qc tgt l st M L) : Tm g d own cc nL ret Qc pc l (.int y :: .int x :: st) M L := tm_icmp_lt tgt _ ht rfl hdg (fun _ => kt) (fun q => absurd h q)
theorem tm_icmp_lt_f {x y : Int32} {off : Int} (n : Nat) {tgt : Nat} (h : ¬ x < y) (ht : (pc : Int) + off = (tgt : Int)) (hn : pc + 3 = n) (hdg : decode cc pc = .ok (.if_icmp .lt off, 3)) (kf : Tm g d own cc nL ret Qc n l st M L) : Tm g d own cc nL ret Qc pc l (.int y :: .int x :: st) M L := tm_icmp_lt tgt n ht hn hdg (fun q => absurd q h) (fun _ => kf)
theorem tm_if_ge {x : Int32} {off : Int} (tgt n : Nat) (ht : (pc : Int) + off = (tgt : Int)) (hn : pc + 3 = n) (hdg : decode cc pc = .ok (.ifCond .ge off, 3)) (kt : 0 ≤ x → Tm g d own cc nL ret Qc tgt l st M L) (kf : ¬ 0 ≤ x → Tm g d own cc nL ret Qc n l st M L) : Tm g d own cc nL ret Qc pc l (.int x :: st) M L := by
  subst hn
  exact fun p e s m args below meth c H locs ls C hl hP hS => lv_if_ge C.1 C.2.1 hdg ht (fun q => kt q p e s m args below meth c H locs ls C hl hP hS) (fun q => kf q p e s m args below meth c H locs ls C hl hP hS)
theorem tm_if_ge_t {x : Int32} {off : Int} (tgt : Nat) (h : 0 ≤ x) (ht : (pc : Int) + off = (tgt : Int)) (hdg : decode cc pc = .ok (.ifCond .ge off, 3)) (kt : Tm g d own cc nL ret Qc tgt l st M L) : Tm g d own cc nL ret Qc pc l (.int x :: st) M L := tm_if_ge tgt _ ht rfl hdg (fun _ => kt) (fun q => absurd h q)
theorem tm_if_ge_f {x : Int32} {off : Int} (n : Nat) {tgt : Nat} (h : ¬ 0 ≤ x) (ht : (pc : Int) + off = (tgt : Int)) (hn : pc + 3 = n) (hdg : decode cc pc = .ok (.ifCond .ge off, 3)) (kf : Tm g d own cc nL ret Qc n l st M L) : Tm g d own cc nL ret Qc pc l (.int x :: st) M L := tm_if_ge tgt n ht hn hdg (fun q => absurd q h) (fun _ => kf)
theorem tm_icmp_ge {x y : Int32} {off : Int} (tgt n : Nat) (ht : (pc : Int) + off = (tgt : Int)) (hn : pc + 3 = n) (hdg : decode cc pc = .ok (.if_icmp .ge off, 3)) (kt : y ≤ x → Tm g d own cc nL ret Qc tgt l st M L) (kf : ¬ y ≤ x → Tm g d own cc nL ret Qc n l st M L) : Tm g d own cc nL ret Qc pc l (.int y :: .int x :: st) M L := by
  subst hn
  exact fun p e s m args below meth c H locs ls C hl hP hS => lv_icmp_ge C.1 C.2.1 hdg ht (fun q => kt q p e s m args below meth c H locs ls C hl hP hS) (fun q => kf q p e s m args below meth c H locs ls C hl hP hS)
theorem tm_icmp_ge_t {x y : Int32} {off : Int} (tgt : Nat) (h : y ≤ x) (ht : (pc : Int) + off = (tgt : Int)) (hdg : decode cc pc = .ok (.if_icmp .ge off, 3)) (kt : Tm g d own cc nL ret Qc tgt l st M L) : Tm g d own cc nL ret Qc pc l (.int y :: .int x :: st) M L := tm_icmp_ge tgt _ ht rfl hdg (fun _ => kt) (fun q => absurd h q)
theorem tm_icmp_ge_f {x y : Int32} {off : Int} (n : Nat) {tgt : Nat} (h : ¬ y ≤ x) (ht : (pc : Int) + off = (tgt : Int)) (hn : pc + 3 = n) (hdg : decode cc pc = .ok (.if_icmp .ge off, 3)) (kf : Tm g d own cc nL ret Qc n l st M L) : Tm g d own cc nL ret Qc pc l (.int y :: .int x :: st) M L := tm_icmp_ge tgt n ht hn hdg (fun q => absurd q h) (fun _ => kf)
theorem tm_if_gt {x : Int32} {off : Int} (tgt n : Nat) (ht : (pc : Int) + off = (tgt : Int)) (hn : pc + 3 = n) (hdg : decode cc pc = .ok (.ifCond .gt off, 3)) (kt : 0 < x → Tm g d own cc nL ret Qc tgt l st M L) (kf : ¬ 0 < x → Tm g d own cc nL ret Qc n l st M L) : Tm g d own cc nL ret Qc pc l (.int x :: st) M L := by
  subst hn
  exact fun p e s m args below meth c H locs ls C hl hP hS => lv_if_gt C.1 C.2.1 hdg ht (fun q => kt q p e s m args below meth c H locs ls C hl hP hS) (fun q => kf q p e s m args below meth c H locs ls C hl hP hS)
theorem tm_if_gt_t {x : Int32} {off : Int} (tgt : Nat) (h : 0 < x) (ht : (pc : Int) + off = (tgt : Int)) (hdg : decode cc pc = .ok (.ifCond .gt off, 3)) (kt : Tm g d own cc nL ret Qc tgt l st M L) : Tm g d own cc nL ret Qc pc l (.int x :: st) M L := tm_if_gt tgt _ ht rfl hdg (fun _ => kt) (fun q => absurd h q)
theorem tm_if_gt_f {x : Int32} {off : Int} (n : Nat) {tgt : Nat} (h : ¬ 0 < x) (ht : (pc : Int) + off = (tgt : Int)) (hn : pc + 3 = n) (hdg : decode cc pc = .ok (.ifCond .gt off, 3)) (kf : Tm g d own cc nL ret Qc n l st M L) : Tm g d own cc nL ret Qc pc l (.int x :: st) M L := tm_if_gt tgt n ht hn hdg (fun q => absurd q h) (fun _ => kf)
theorem tm_icmp_gt {x y : Int32} {off : Int} (tgt n : Nat) (ht : (pc : Int) + off = (tgt : Int)) (hn : pc + 3 = n) (hdg : decode cc pc = .ok (.if_icmp .gt off, 3)) (kt : y < x → Tm g d own cc nL ret Qc tgt l st M L) (kf : ¬ y < x → Tm g d own cc nL ret Qc n l st M L) : Tm g d own cc nL ret Qc pc l (.int y :: .int x :: st) M L := by
  subst hn
  exact fun p e s m args below meth c H locs ls C hl hP hS => lv_icmp_gt C.1 C.2.1 hdg ht (fun q => kt q p e s m args below meth c H locs ls C hl hP hS) (fun q => kf q p e s m args below meth c H locs ls C hl hP hS)
theorem tm_icmp_gt_t {x y : Int32} {off : Int} (tgt : Nat) (h : y < x) (ht : (pc : Int) + off = (tgt : Int)) (hdg : decode cc pc = .ok (.if_icmp .gt off, 3)) (kt : Tm g d own cc nL ret Qc tgt l st M L) : Tm g d own cc nL ret Qc pc l (.int y :: .int x :: st) M L := tm_icmp_gt tgt _ ht rfl hdg (fun _ => kt) (fun q => absurd h q)
theorem tm_icmp_gt_f {x y : Int32} {off : Int} (n : Nat) {tgt : Nat} (h : ¬ y < x) (ht : (pc : Int) + off = (tgt : Int)) (hn : pc + 3 = n) (hdg : decode cc pc = .ok (.if_icmp .gt off, 3)) (kf : Tm g d own cc nL ret Qc n l st M L) : Tm g d own cc nL ret Qc pc l (.int y :: .int x :: st) M L := tm_icmp_gt tgt n ht hn hdg (fun q => absurd q h) (fun _ => kf)
theorem tm_if_le {x : Int32} {off : Int} (tgt n : Nat) (ht : (pc : Int) + off = (tgt : Int)) (hn : pc + 3 = n) (hdg : decode cc pc = .ok (.ifCond .le off, 3)) (kt : x ≤ 0 → Tm g d own cc nL ret Qc tgt l st M L) (kf : ¬ x ≤ 0 → Tm g d own cc nL ret Qc n l st M L) : Tm g d own cc nL ret Qc pc l (.int x :: st) M L := by
  subst hn
  exact fun p e s m args below meth c H locs ls C hl hP hS => lv_if_le C.1 C.2.1 hdg ht (fun q => kt q p e s m args below meth c H locs ls C hl hP hS) (fun q => kf q p e s m args below meth c H locs ls C hl hP hS)
theorem tm_if_le_t {x : Int32} {off : Int} (tgt : Nat) (h : x ≤ 0) (ht : (pc : Int) + off = (tgt : Int)) (hdg : decode cc pc = .ok (.ifCond .le off, 3)) (kt : Tm g d own cc nL ret Qc tgt l st M L) : Tm g d own cc nL ret Qc pc l (.int x :: st) M L := tm_if_le tgt _ ht rfl hdg (fun _ => kt) (fun q => absurd h q)
theorem tm_if_le_f {x : Int32} {off : Int} (n : Nat) {tgt : Nat} (h : ¬ x ≤ 0) (ht : (pc : Int) + off = (tgt : Int)) (hn : pc + 3 = n) (hdg : decode cc pc = .ok (.ifCond .le off, 3)) (kf : Tm g d own cc nL ret Qc n l st M L) : Tm g d own cc nL ret Qc pc l (.int x :: st) M L := tm_if_le tgt n ht hn hdg (fun q => absurd q h) (fun _ => kf)
theorem tm_icmp_le {x y : Int32} {off : Int} (tgt n : Nat) (ht : (pc : Int) + off = (tgt : Int)) (hn : pc + 3 = n) (hdg : decode cc pc = .ok (.if_icmp .le off, 3)) (kt : x ≤ y → Tm g d own cc nL ret Qc tgt l st M L) (kf : ¬ x ≤ y → Tm g d own cc nL ret Qc n l st M L) : Tm g d own cc nL ret Qc pc l (.int y :: .int x :: st) M L := by
  subst hn
  exact fun p e s m args below meth c H locs ls C hl hP hS => lv_icmp_le C.1 C.2.1 hdg ht (fun q => kt q p e s m args below meth c H locs ls C hl hP hS) (fun q => kf q p e s m args below meth c H locs ls C hl hP hS)
theorem tm_icmp_le_t {x y : Int32} {off : Int} (tgt : Nat) (h : x ≤ y) (ht : (pc : Int) + off = (tgt : Int)) (hdg : decode cc pc = .ok (.if_icmp .le off, 3)) (kt : Tm g d own cc nL ret Qc tgt l st M L) : Tm g d own cc nL ret Qc pc l (.int y :: .int x :: st) M L := tm_icmp_le tgt _ ht rfl hdg (fun _ => kt) (fun q => absurd h q)
theorem tm_icmp_le_f {x y : Int32} {off : Int} (n : Nat) {tgt : Nat} (h : ¬ x ≤ y) (ht : (pc : Int) + off = (tgt : Int)) (hn : pc + 3 = n) (hdg : decode cc pc = .ok (.if_icmp .le off, 3)) (kf : Tm g d own cc nL ret Qc n l st M L) : Tm g d own cc nL ret Qc pc l (.int y :: .int x :: st) M L := tm_icmp_le tgt n ht hn hdg (fun q => absurd q h) (fun _ => kf)
theorem tm_if_eqB {b : Bool} {off : Int} (tgt n : Nat) (ht : (pc : Int) + off = (tgt : Int)) (hn : pc + 3 = n) (hdg : decode cc pc = .ok (.ifCond .eq off, 3)) (kt : b = false → Tm g d own cc nL ret Qc tgt l st M L) (kf : b = true → Tm g d own cc nL ret Qc n l st M L) : Tm g d own cc nL ret Qc pc l (.int (bI b) :: st) M L := tm_if_eq tgt n ht hn hdg (fun q => kt ((bI_0 b).mp q)) (fun q => kf ((bI_n0 b).mp q))
theorem tm_if_neB {b : Bool} {off : Int} (tgt n : Nat) (ht : (pc : Int) + off = (tgt : Int)) (hn : pc + 3 = n) (hdg : decode cc pc = .ok (.ifCond .ne off, 3)) (kt : b = true → Tm g d own cc nL ret Qc tgt l st M L) (kf : b = false → Tm g d own cc nL ret Qc n l st M L) : Tm g d own cc nL ret Qc pc l (.int (bI b) :: st) M L := tm_if_ne tgt n ht hn hdg (fun q => kt ((bI_n0 b).mp q)) (fun q => kf ((bI_0 b).mp q))
theorem tm_goto {off : Int} (tgt : Nat) (ht : (pc : Int) + off = (tgt : Int)) (hdg : decode cc pc = .ok (.goto off, 3)) (k : Tm g d own cc nL ret Qc tgt l st M L) : Tm g d own cc nL ret Qc pc l st M L := fun p e s m args below meth c H locs ls C hl hP hS => lv_goto C.1 C.2.1 hdg ht (k p e s m args below meth c H locs ls C hl hP hS)
theorem tm_swOut {dflt lo hi : Int} {offs : Array Int} {len : Nat} {x : Int32} (tgt : Nat) (h : x.toInt < lo ∨ hi < x.toInt) (ht : (pc : Int) + dflt = (tgt : Int)) (hdg : decode cc pc = .ok (.tableswitch dflt lo hi offs, len)) (k : Tm g d own cc nL ret Qc tgt l st M L) : Tm g d own cc nL ret Qc pc l (.int x :: st) M L := fun p e s m args below meth c H locs ls C hl hP hS => lv_tableOut C.1 C.2.1 hdg h ht (k p e s m args below meth c H locs ls C hl hP hS)
theorem tm_swIn {dflt lo hi : Int} {offs : Array Int} {len : Nat} {x : Int32} {off : Int} (tgt : Nat) (h1 : ¬ x.toInt < lo) (h2 : ¬ hi < x.toInt) (ho : offs[(x.toInt - lo).toNat]? = some off) (ht : (pc : Int) + off = (tgt : Int)) (hdg : decode cc pc = .ok (.tableswitch dflt lo hi offs, len)) (k : Tm g d own cc nL ret Qc tgt l st M L) : Tm g d own cc nL ret Qc pc l (.int x :: st) M L := fun p e s m args below meth c H locs ls C hl hP hS => lv_tableIn C.1 C.2.1 hdg h1 h2 ho ht (k p e s m args below meth c H locs ls C hl hP hS)
theorem tm_look {dflt : Int} {ps : Array (Int × Int)} {len : Nat} {x : Int32} {off : Int} (tgt : Nat) (hp : (ps.toList.zip (ps.toList.drop 1)).all (fun (a, next) => a.1 < next.1) = true) (ho : Op.lookupswitch.offset ps.toList dflt x.toInt = off) (ht : (pc : Int) + off = (tgt : Int)) (hdg : decode cc pc = .ok (.lookupswitch dflt ps, len)) (k : Tm g d own cc nL ret Qc tgt l st M L) : Tm g d own cc nL ret Qc pc l (.int x :: st) M L := fun p e s m args below meth c H locs ls C hl hP hS => lv_lookup C.1 C.2.1 hdg hp ho ht (k p e s m args below meth c H locs ls C hl hP hS)
theorem tm_wk {l' : List (Option Value)} (hk : wkL l l') (k : Tm g d own cc nL ret Qc pc l st M L) : Tm g d own cc nL ret Qc pc l' st M L := fun p e s m args below meth c H locs ls C hl hP hS => k p e s m args below meth c H locs ls C (hl.wk hk) hP hS
theorem tm_eq {pc' : Nat} {l' : List (Option Value)} {st' : List Value} {M' : MI} {L' : ML} (h1 : pc = pc') (h2 : l = l') (h3 : st = st') (h4 : M = M') (h5 : L = L') (k : Tm g d own cc nL ret Qc pc l st M L) : Tm g d own cc nL ret Qc pc' l' st' M' L' := by subst h1; subst h2; subst h3; subst h4; subst h5; exact k
theorem tm_geti {index ci i kf : Nat} {fl : List (Option Nat)} (hf : FL own index ci kf) (hs : shp i = some (.inl (ci, fl))) (hk : fl[kf]? = some none) (n : Nat) (hn : pc + 3 = n) (hdg : decode cc pc = .ok (.getfield index, 3)) (k : Tm g d own cc nL ret Qc n l (.int (M i kf) :: st) M L) : Tm g d own cc nL ret Qc pc l (rf g i :: st) M L := by
  subst hn
  intro p e s m args below meth c H locs ls C hl hP hS
  obtain ⟨Cn, Tn, N, ty0, h1, h2, h3, h4, h5, h6⟩ := hf
  exact va_get C.1 C.2.1 C.2.2.2.2.2.1 h2 C.2.2.2.2.1 C.2.2.2.2.2.2.2.1 hP i (wld_get hs) h1 kf h3 (C.2.2.2.2.2.1 _ h4) (fun _ h9 => h9) (v := .int (M i kf)) (by show (fldV g (M i) 0 fl)[kf]? = _; rw [fldV_get, hk]; simp) hdg (k p e s m args below meth c H locs ls C hl hP hS)
theorem tm_getr {index ci i j kf : Nat} {fl : List (Option Nat)} (hf : FL own index ci kf) (hs : shp i = some (.inl (ci, fl))) (hk : fl[kf]? = some (some j)) (n : Nat) (hn : pc + 3 = n) (hdg : decode cc pc = .ok (.getfield index, 3)) (k : Tm g d own cc nL ret Qc n l (rf g j :: st) M L) : Tm g d own cc nL ret Qc pc l (rf g i :: st) M L := by
  subst hn
  intro p e s m args below meth c H locs ls C hl hP hS
  obtain ⟨Cn, Tn, N, ty0, h1, h2, h3, h4, h5, h6⟩ := hf
  exact va_get C.1 C.2.1 C.2.2.2.2.2.1 h2 C.2.2.2.2.1 C.2.2.2.2.2.2.2.1 hP i (wld_get hs) h1 kf h3 (C.2.2.2.2.2.1 _ h4) (fun _ h9 => h9) (v := rf g j) (by show (fldV g (M i) 0 fl)[kf]? = _; rw [fldV_get, hk]; simp) hdg (k p e s m args below meth c H locs ls C hl hP hS)
theorem tm_puti {index ci i kf : Nat} {fl : List (Option Nat)} {ty : FieldType} {x : Int32} (hf : FL own index ci kf) (hw : FW ci kf ty) (hs : shp i = some (.inl (ci, fl))) (hk : fl[kf]? = some none) (hx : narrow ty (.int x) = .int x) (hx2 : fits ty (.int x) = true) (n : Nat) (hn : pc + 3 = n) (hdg : decode cc pc = .ok (.putfield index, 3)) (k : Tm g d own cc nL ret Qc n l st (s1 M i kf x) L) : Tm g d own cc nL ret Qc pc l (.int x :: rf g i :: st) M L := by
  subst hn
  intro p e s m args below meth c H locs ls C hl hP hS
  obtain ⟨Cn, Tn, N, ty0, h1, h2, h3, h4, h5, h6⟩ := hf
  obtain ⟨w1, w2⟩ := hw Cn Tn N h1
  refine va_put C.1 C.2.1 C.2.2.2.2.2.1 h2 ty0 h5 h6 C.2.2.2.2.1 C.2.2.2.2.2.2.2.1 hP (wld_D C.2.2.2.2.2.2.2.2.2.2 M L) hS i (wld_get hs) h1 kf h3 (C.2.2.2.2.2.1 _ h4) (fun _ h9 => h9) w1 w2 hx hx2 (by show kf < (fldV g (M i) 0 fl).length; rw [fldV_len]; exact (List.getElem?_eq_some_iff.mp hk).1) hdg (fun H1 locs1 hP1 hD1 hS1 => k p e s m args below meth c H1 locs1 ls C hl ?_ hS1)
  rw [fldV_set g (M i) x fl 0 kf hk, Nat.zero_add] at hP1
  have e1 : (Sum.inr (ci, fldV g (upd (M i) kf x) 0 fl) : va_E) = cellE g (sr M i (upd (M i) kf x)) L i (.inl (ci, fl)) := by
    show _ = (Sum.inr (ci, fldV g (sr M i (upd (M i) kf x) i) 0 fl) : va_E)
    rw [sr_eq]
  rw [e1, wld_set _ hs] at hP1
  exact hP1
theorem tm_ald {i nA ix : Nat} {x : Int32} {tg : List Nat} (hs : shp i = some (.inr (0, nA, tg))) (hx : ixI x nA ix) (n : Nat) (hn : pc + 1 = n) (hdg : decode cc pc = .ok (.iaload, 1)) (k : Tm g d own cc nL ret Qc n l (.int (M i ix) :: st) M L) : Tm g d own cc nL ret Qc pc l (.int x :: rf g i :: st) M L := by
  subst hn
  intro p e s m args below meth c H locs ls C hl hP hS
  have kk := k p e s m args below meth c H locs ls C hl hP hS
  rw [← hx.2.1] at kk
  exact va_iald C.1 C.2.1 C.2.2.2.2.2.2.2.1 hP i 0 (f := M i) (wld_get hs) rfl hx.vp hdg kk
theorem tm_ast {i nA ix : Nat} {x v : Int32} {tg : List Nat} (hs : shp i = some (.inr (0, nA, tg))) (hx : ixI x nA ix) (n : Nat) (hn : pc + 1 = n) (hdg : decode cc pc = .ok (.iastore, 1)) (k : Tm g d own cc nL ret Qc n l st (s1 M i ix v) L) : Tm g d own cc nL ret Qc pc l (.int v :: .int x :: rf g i :: st) M L := by
  subst hn
  intro p e s m args below meth c H locs ls C hl hP hS
  refine va_iast C.1 C.2.1 C.2.2.2.2.2.2.2.1 hP (wld_D C.2.2.2.2.2.2.2.2.2.2 M L) hS i 0 (f := M i) (wld_get hs) rfl hx.vp hdg (fun H1 locs1 hP1 hD1 hS1 => k p e s m args below meth c H1 locs1 ls C hl ?_ hS1)
  rw [hx.2.1] at hP1
  have e1 : (Sum.inl (gI g, nA, Sum.inl (upd (M i) ix v)) : va_E) = cellE g (sr M i (upd (M i) ix v)) L i (.inr (0, nA, tg)) := by
    show _ = (Sum.inl (gI g, nA, Sum.inl (sr M i (upd (M i) ix v) i)) : va_E)
    rw [sr_eq]
  rw [e1, wld_set _ hs] at hP1
  exact hP1
theorem tm_lald {i nA ix : Nat} {x : Int32} {tg : List Nat} (hs : shp i = some (.inr (1, nA, tg))) (hx : ixI x nA ix) (n : Nat) (hn : pc + 1 = n) (hdg : decode cc pc = .ok (.laload, 1)) (k : Tm g d own cc nL ret Qc n l (.long (L i ix) :: st) M L) : Tm g d own cc nL ret Qc pc l (.int x :: rf g i :: st) M L := by
  subst hn
  intro p e s m args below meth c H locs ls C hl hP hS
  have kk := k p e s m args below meth c H locs ls C hl hP hS
  rw [← hx.2.1] at kk
  exact va_lald C.1 C.2.1 C.2.2.2.2.2.2.2.1 hP i 1 (f := L i) (wld_get hs) rfl hx.vp hdg kk
theorem tm_last {i nA ix : Nat} {x : Int32} {v : Int64} {tg : List Nat} (hs : shp i = some (.inr (1, nA, tg))) (hx : ixI x nA ix) (n : Nat) (hn : pc + 1 = n) (hdg : decode cc pc = .ok (.lastore, 1)) (k : Tm g d own cc nL ret Qc n l st M (s1L L i ix v)) : Tm g d own cc nL ret Qc pc l (.long v :: .int x :: rf g i :: st) M L := by
  subst hn
  intro p e s m args below meth c H locs ls C hl hP hS
  refine va_last C.1 C.2.1 C.2.2.2.2.2.2.2.1 hP (wld_D C.2.2.2.2.2.2.2.2.2.2 M L) hS i 1 (f := L i) (wld_get hs) rfl hx.vp hdg (fun H1 locs1 hP1 hD1 hS1 => k p e s m args below meth c H1 locs1 ls C hl ?_ hS1)
  rw [hx.2.1] at hP1
  have e1 : (Sum.inl (gJ g, nA, Sum.inr (Sum.inl (vp_updL (L i) ix v))) : va_E) = cellE g M (srL L i (vp_updL (L i) ix v)) i (.inr (1, nA, tg)) := by
    show _ = (Sum.inl (gJ g, nA, Sum.inr (Sum.inl (srL L i (vp_updL (L i) ix v) i))) : va_E)
    rw [srL_eq]
  rw [e1, wld_setL _ hs] at hP1
  exact hP1
theorem tm_aald2 {i nA ix j : Nat} {x : Int32} {tg : List Nat} (hs : shp i = some (.inr (2, nA, tg))) (hx : ixI x nA ix) (hj : tg[ix]? = some j) (n : Nat) (hn : pc + 1 = n) (hdg : decode cc pc = .ok (.aaload, 1)) (k : Tm g d own cc nL ret Qc n l (rf g j :: st) M L) : Tm g d own cc nL ret Qc pc l (.int x :: rf g i :: st) M L := by
  subst hn
  intro p e s m args below meth c H locs ls C hl hP hS
  refine va_aldq C.1 C.2.1 C.2.2.2.2.2.2.2.1 hP i 2 (f := fun k => (tg[k]?).map (ga g)) (wld_get hs) rfl hx.vp hdg ?_
  rw [hx.2.1, hj]
  exact k p e s m args below meth c H locs ls C hl hP hS
theorem tm_aald3 {i nA ix j : Nat} {x : Int32} {tg : List Nat} (hs : shp i = some (.inr (3, nA, tg))) (hx : ixI x nA ix) (hj : tg[ix]? = some j) (n : Nat) (hn : pc + 1 = n) (hdg : decode cc pc = .ok (.aaload, 1)) (k : Tm g d own cc nL ret Qc n l (rf g j :: st) M L) : Tm g d own cc nL ret Qc pc l (.int x :: rf g i :: st) M L := by
  subst hn
  intro p e s m args below meth c H locs ls C hl hP hS
  have hlt : x.toNatClampNeg < nA := by rw [hx.2.1]; exact hx.2.2
  refine W.aald (v := va_rf ((tg[x.toNatClampNeg]?).map (ga g))) (ty := .array .long) C.1 C.2.1 (hP i _ (wld_get hs)) ((C.2.2.2.2.2.2.2.1.2 3 _ rfl).1 nA (fun j => va_rf ((tg[j]?).map (ga g)))) rfl (fun q => by cases q) (by show ¬ (x < 0 ∨ (arrV _ _ _).slots.size ≤ _); rw [arrV_size]; exact hx.vp) (by show (arrV _ _ _).slots[_]? = _; rw [arrV_read _ _ hlt]) rfl rfl hdg ?_
  rw [hx.2.1, hj]
  exact k p e s m args below meth c H locs ls C hl hP hS
theorem tm_alenI {i nA : Nat} {tg : List Nat} (hs : shp i = some (.inr (0, nA, tg))) (n : Nat) (hn : pc + 1 = n) (hdg : decode cc pc = .ok (.arraylength, 1)) (k : Tm g d own cc nL ret Qc n l (.int (nI nA) :: st) M L) : Tm g d own cc nL ret Qc pc l (rf g i :: st) M L := by
  subst hn
  intro p e s m args below meth c H locs ls C hl hP hS
  exact va_alen C.1 C.2.1 C.2.2.2.2.2.2.2.1 hP i 0 (x := (nA, .inl (M i))) (wld_get hs) rfl rfl hdg (k p e s m args below meth c H locs ls C hl hP hS)
theorem tm_with {index : Nat} (hw : Cond.fieldLink own index "WeighedLots$Lots" "WITH" "[I" ∈ tbU) (n : Nat) (hn : pc + 3 = n) (hdg : decode cc pc = .ok (.getstatic index, 3)) (k : Tm g d own cc nL ret Qc n l (.ref (gW g) :: st) M L) : Tm g d own cc nL ret Qc pc l st M L := by
  subst hn
  intro p e s m args below meth c H locs ls C hl hP hS
  exact va_gets C.1 C.2.1 C.2.2.2.2.2.2.2.2.1 hS C.2.2.2.2.1 (C.2.2.2.2.2.1 _ hw) (fun _ h9 => h9) hdg (k p e s m args below meth c H locs ls C hl hP hS)
theorem tm_withAt {ix : Nat} {x : Int32} (hx : ixI x 4 ix) (n : Nat) (hn : pc + 1 = n) (hdg : decode cc pc = .ok (.iaload, 1)) (k : Tm g d own cc nL ret Qc n l (.int (wv ix) :: st) M L) : Tm g d own cc nL ret Qc pc l (.int x :: .ref (gW g) :: st) M L := by
  subst hn
  intro p e s m args below meth c H locs ls C hl hP hS
  exact va_ti C.1 C.2.1 C.2.2.2.2.2.2.2.2.2.1 hS hx.vp (by show Value.int (wv x.toNatClampNeg) = _; rw [hx.2.1]) hdg (k p e s m args below meth c H locs ls C hl hP hS)
theorem tm_iret {F x : Int32} {M' : MI} {L' : ML} (hx : x = F) (hM : M = M') (hL : L = L') (hdg : decode cc pc = .ok (.ireturn, 1)) : Tm g d own cc nL (some .int) (QI g F M' L') pc l [.int x] M L := by
  subst hx; subst hM; subst hL
  exact fun p e s m args below meth c H locs ls C hl hP hS => W.iret (v := x) C.1 C.2.1 C.2.2.1 (fun t ht hW => ⟨⟨x, (M, L), rfl, ⟨rfl, rfl⟩, by show va_P _ _ _ t.heap; rw [ht]; exact hP⟩, hS.F ht⟩) hS.2.2 hdg C.2.2.2.2.2.2.1
theorem tm_zret {F x : Int32} {M' : MI} {L' : ML} (h01 : x = 0 ∨ x = 1) (hx : x = F) (hM : M = M') (hL : L = L') (hdg : decode cc pc = .ok (.ireturn, 1)) : Tm g d own cc nL (some .boolean) (QI g F M' L') pc l [.int x] M L := by
  subst hx; subst hM; subst hL
  exact fun p e s m args below meth c H locs ls C hl hP hS => W.zret (v := x) C.1 C.2.1 C.2.2.1 (by rcases h01 with h | h <;> subst h <;> rfl) (fun t ht hW => ⟨⟨x, (M, L), rfl, ⟨rfl, rfl⟩, by show va_P _ _ _ t.heap; rw [ht]; exact hP⟩, hS.F ht⟩) hS.2.2 hdg C.2.2.2.2.2.2.1
theorem tm_lret {F x : Int64} {M' : MI} {L' : ML} (hx : x = F) (hM : M = M') (hL : L = L') (hdg : decode cc pc = .ok (.lreturn, 1)) : Tm g d own cc nL (some .long) (QL g F M' L') pc l [.long x] M L := by
  subst hx; subst hM; subst hL
  exact fun p e s m args below meth c H locs ls C hl hP hS => W.lret (v := x) C.1 C.2.1 C.2.2.1 (fun t ht hW => ⟨⟨x, (M, L), rfl, ⟨rfl, rfl⟩, by show va_P _ _ _ t.heap; rw [ht]; exact hP⟩, hS.F ht⟩) hS.2.2 hdg C.2.2.2.2.2.2.1
theorem tm_vret {M' : MI} {L' : ML} (hM : M = M') (hL : L = L') (hdg : decode cc pc = .ok (.return_, 1)) : Tm g d own cc nL none (QV g M' L') pc l [] M L := by
  subst hM; subst hL
  exact fun p e s m args below meth c H locs ls C hl hP hS => W.vret C.1 C.2.1 C.2.2.1 (fun t ht hW => ⟨⟨(M, L), rfl, rfl, by show va_P _ _ _ t.heap; rw [ht]; exact hP⟩, hS.F ht⟩) hS.2.2 hdg C.2.2.2.2.2.2.1
theorem tm_callV_I {y : MethodName} {cb : ByteArray} {nB index q ci : Nat} {ty : FieldType} {av : List Value} {F : Int32} {M1 : MI} {L1 : ML} {i : Nat} {As : List Value} {fl : List (Option Nat)} {stk : List Value} (hM : CfI g d y cb nB ty av M L F M1 L1) (hm : MV y cb nB (some ty) q) (hln : Cond.methodLink own index y ∈ tbU) (hav : av = rf g i :: As) (hs : shp i = some (.inl (ci, fl))) (hc : (vwCl[ci]?).map (fun z => z.1) = some y.cls) (hq : As.length = q) (hst : stk = As.reverse ++ rf g i :: st) (hroom : (st.map fun v => v.category).sum ≤ 8) (n : Nat) (hn : pc + 3 = n) (hdg : decode cc pc = .ok (.invokevirtual index, 3)) (k : Tm g (d + 1) own cc nL ret Qc n l (.int F :: st) M1 L1) : Tm g (d + 1) own cc nL ret Qc pc l stk M L := by
  subst hn; subst hst; subst hav
  intro p e s m args below meth c H locs ls C hl hP hS
  obtain ⟨m1, m2, m3, m4, ⟨m5, m6, m7⟩, m8⟩ := hm
  have hg : GoodIn tbU (wsV own index y.cls y (wsU y cb nB (some ty))) := tb_goodIn (fun w hw => by
    rcases List.mem_append.mp hw with hw | hw
    · simp only [List.mem_cons, List.not_mem_nil, or_false] at hw
      rcases hw with rfl | rfl | rfl | rfl
      · exact hln
      · exact m1
      · exact m2
      · exact m3
    · rcases List.mem_cons.mp hw with rfl | hw
      · exact m4
      · exact hw)
  obtain ⟨z, hz1, hz2⟩ : ∃ z, vwCl[ci]? = some z ∧ z.1 = y.cls := by
    cases hzz : vwCl[ci]? with
    | none => rw [hzz] at hc; cases hc
    | some z => rw [hzz] at hc; exact ⟨z, rfl, by simpa using hc⟩
  have hrec := va_recv C.2.2.2.2.2.2.2.1 hP hz1 (wld_get hs)
  rw [hz2] at hrec
  refine va_calli (va_runV (As := As) (rest := st) ⟨C.1, C.2.1, C.2.2.2.1, C.2.2.2.2.1, C.2.2.2.2.2.1⟩ hM (cwV q C.2.2.2.2.2.1 hg rfl rfl rfl ⟨rfl, m5, m6, m7⟩ ⟨Nat.le_refl _, by show 8 + (nB + 11) + 40 * d ≤ 40 * (d + 1); omega⟩) ⟨blindG g _ M L, hrec, fun U hU hW => ⟨rfl, by rw [hU]; exact hP, C.2.2.2.2.2.2.2.move hS hU hW⟩⟩ rfl hq hl.1 rfl (lv_room hroom) hdg ⟨Nat.le_refl _, Nat.le_refl _⟩) hS (fun q _ h => h) (fun q h => h) (fun r u t H1 locs1 ht hvm hw hB hz hk hS1 => ?_)
  obtain ⟨hw1, hw2⟩ := hw
  subst hw1; subst hw2
  subst ht
  exact k p e s m args below meth c _ locs1 ls C hl hB hS1
theorem tm_callS_I {y : MethodName} {cb : ByteArray} {nB index q : Nat} {ty : FieldType} {av : List Value} {F : Int32} {M1 : MI} {L1 : ML} {stk : List Value} (hM : CfI g d y cb nB ty av M L F M1 L1) (hm : MS y cb nB (some ty) q) (hln : Cond.methodLink own index y ∈ tbU) (hq : av.length = q) (hst : stk = av.reverse ++ st) (hroom : (st.map fun v => v.category).sum ≤ 8) (n : Nat) (hn : pc + 3 = n) (hdg : decode cc pc = .ok (.invokestatic index, 3)) (k : Tm g (d + 1) own cc nL ret Qc n l (.int F :: st) M1 L1) : Tm g (d + 1) own cc nL ret Qc pc l stk M L := by
  subst hn; subst hst
  intro p e s m args below meth c H locs ls C hl hP hS
  obtain ⟨m1, m3, m4, ⟨m5, m6, m7⟩, m8⟩ := hm
  have hg : GoodIn tbU (va_wsS own index y (wsU y cb nB (some ty))) := tb_goodIn (fun w hw => by
    rcases List.mem_append.mp hw with hw | hw
    · simp only [List.mem_cons, List.not_mem_nil, or_false] at hw
      rcases hw with rfl | rfl | rfl
      · exact hln
      · exact m1
      · exact m3
    · rcases List.mem_cons.mp hw with rfl | hw
      · exact m4
      · exact hw)
  refine va_calli (va_runS (As := av) (rest := st) ⟨C.1, C.2.1, C.2.2.2.1, C.2.2.2.2.1, C.2.2.2.2.2.1⟩ hM (va_cwS q C.2.2.2.2.2.1 hg rfl rfl rfl ⟨m5, m6, m7⟩ ⟨Nat.le_refl _, by show 8 + (nB + 11) + 40 * d ≤ 40 * (d + 1); omega⟩) ⟨blindG g _ M L, fun U hU hW => ⟨rfl, by rw [hU]; exact hP, C.2.2.2.2.2.2.2.move hS hU hW⟩⟩ rfl hq hl.1 rfl (lv_room hroom) hdg ⟨Nat.le_refl _, Nat.le_refl _⟩) hS (fun q _ h => h) (fun q h => h) (fun r u t H1 locs1 ht hvm hw hB hz hk hS1 => ?_)
  obtain ⟨hw1, hw2⟩ := hw
  subst hw1; subst hw2
  subst ht
  exact k p e s m args below meth c _ locs1 ls C hl hB hS1
theorem tm_callV_V {y : MethodName} {cb : ByteArray} {nB index q ci : Nat} {av : List Value} {M1 : MI} {L1 : ML} {i : Nat} {As : List Value} {fl : List (Option Nat)} {stk : List Value} (hM : CfV g d y cb nB av M L M1 L1) (hm : MV y cb nB none q) (hln : Cond.methodLink own index y ∈ tbU) (hav : av = rf g i :: As) (hs : shp i = some (.inl (ci, fl))) (hc : (vwCl[ci]?).map (fun z => z.1) = some y.cls) (hq : As.length = q) (hst : stk = As.reverse ++ rf g i :: st) (hroom : (st.map fun v => v.category).sum ≤ 8) (n : Nat) (hn : pc + 3 = n) (hdg : decode cc pc = .ok (.invokevirtual index, 3)) (k : Tm g (d + 1) own cc nL ret Qc n l (st) M1 L1) : Tm g (d + 1) own cc nL ret Qc pc l stk M L := by
  subst hn; subst hst; subst hav
  intro p e s m args below meth c H locs ls C hl hP hS
  obtain ⟨m1, m2, m3, m4, ⟨m5, m6, m7⟩, m8⟩ := hm
  have hg : GoodIn tbU (wsV own index y.cls y (wsU y cb nB none)) := tb_goodIn (fun w hw => by
    rcases List.mem_append.mp hw with hw | hw
    · simp only [List.mem_cons, List.not_mem_nil, or_false] at hw
      rcases hw with rfl | rfl | rfl | rfl
      · exact hln
      · exact m1
      · exact m2
      · exact m3
    · rcases List.mem_cons.mp hw with rfl | hw
      · exact m4
      · exact hw)
  obtain ⟨z, hz1, hz2⟩ : ∃ z, vwCl[ci]? = some z ∧ z.1 = y.cls := by
    cases hzz : vwCl[ci]? with
    | none => rw [hzz] at hc; cases hc
    | some z => rw [hzz] at hc; exact ⟨z, rfl, by simpa using hc⟩
  have hrec := va_recv C.2.2.2.2.2.2.2.1 hP hz1 (wld_get hs)
  rw [hz2] at hrec
  refine va_callv (va_runV (As := As) (rest := st) ⟨C.1, C.2.1, C.2.2.2.1, C.2.2.2.2.1, C.2.2.2.2.2.1⟩ hM (cwV q C.2.2.2.2.2.1 hg rfl rfl rfl ⟨rfl, m5, m6, m7⟩ ⟨Nat.le_refl _, by show 8 + (nB + 11) + 40 * d ≤ 40 * (d + 1); omega⟩) ⟨blindG g _ M L, hrec, fun U hU hW => ⟨rfl, by rw [hU]; exact hP, C.2.2.2.2.2.2.2.move hS hU hW⟩⟩ rfl hq hl.1 rfl (lv_room hroom) hdg ⟨Nat.le_refl _, Nat.le_refl _⟩) hS (fun q _ h => h) (fun q h => h) (fun u t H1 locs1 ht hvm hw hB hz hk hS1 => ?_)
  subst hw
  subst ht
  exact k p e s m args below meth c _ locs1 ls C hl hB hS1
theorem tm_callS_V {y : MethodName} {cb : ByteArray} {nB index q : Nat} {av : List Value} {M1 : MI} {L1 : ML} {stk : List Value} (hM : CfV g d y cb nB av M L M1 L1) (hm : MS y cb nB none q) (hln : Cond.methodLink own index y ∈ tbU) (hq : av.length = q) (hst : stk = av.reverse ++ st) (hroom : (st.map fun v => v.category).sum ≤ 8) (n : Nat) (hn : pc + 3 = n) (hdg : decode cc pc = .ok (.invokestatic index, 3)) (k : Tm g (d + 1) own cc nL ret Qc n l (st) M1 L1) : Tm g (d + 1) own cc nL ret Qc pc l stk M L := by
  subst hn; subst hst
  intro p e s m args below meth c H locs ls C hl hP hS
  obtain ⟨m1, m3, m4, ⟨m5, m6, m7⟩, m8⟩ := hm
  have hg : GoodIn tbU (va_wsS own index y (wsU y cb nB none)) := tb_goodIn (fun w hw => by
    rcases List.mem_append.mp hw with hw | hw
    · simp only [List.mem_cons, List.not_mem_nil, or_false] at hw
      rcases hw with rfl | rfl | rfl
      · exact hln
      · exact m1
      · exact m3
    · rcases List.mem_cons.mp hw with rfl | hw
      · exact m4
      · exact hw)
  refine va_callv (va_runS (As := av) (rest := st) ⟨C.1, C.2.1, C.2.2.2.1, C.2.2.2.2.1, C.2.2.2.2.2.1⟩ hM (va_cwS q C.2.2.2.2.2.1 hg rfl rfl rfl ⟨m5, m6, m7⟩ ⟨Nat.le_refl _, by show 8 + (nB + 11) + 40 * d ≤ 40 * (d + 1); omega⟩) ⟨blindG g _ M L, fun U hU hW => ⟨rfl, by rw [hU]; exact hP, C.2.2.2.2.2.2.2.move hS hU hW⟩⟩ rfl hq hl.1 rfl (lv_room hroom) hdg ⟨Nat.le_refl _, Nat.le_refl _⟩) hS (fun q _ h => h) (fun q h => h) (fun u t H1 locs1 ht hvm hw hB hz hk hS1 => ?_)
  subst hw
  subst ht
  exact k p e s m args below meth c _ locs1 ls C hl hB hS1
theorem tm_callV_L {y : MethodName} {cb : ByteArray} {nB index q ci : Nat} {av : List Value} {F : Int64} {M1 : MI} {L1 : ML} {i : Nat} {As : List Value} {fl : List (Option Nat)} {stk : List Value} (hM : CfL g d y cb nB av M L F M1 L1) (hm : MV y cb nB (some .long) q) (hln : Cond.methodLink own index y ∈ tbU) (hav : av = rf g i :: As) (hs : shp i = some (.inl (ci, fl))) (hc : (vwCl[ci]?).map (fun z => z.1) = some y.cls) (hq : As.length = q) (hst : stk = As.reverse ++ rf g i :: st) (hroom : (st.map fun v => v.category).sum ≤ 8) (n : Nat) (hn : pc + 3 = n) (hdg : decode cc pc = .ok (.invokevirtual index, 3)) (k : Tm g (d + 1) own cc nL ret Qc n l (.long F :: st) M1 L1) : Tm g (d + 1) own cc nL ret Qc pc l stk M L := by
  subst hn; subst hst; subst hav
  intro p e s m args below meth c H locs ls C hl hP hS
  obtain ⟨m1, m2, m3, m4, ⟨m5, m6, m7⟩, m8⟩ := hm
  have hg : GoodIn tbU (wsV own index y.cls y (wsU y cb nB (some .long))) := tb_goodIn (fun w hw => by
    rcases List.mem_append.mp hw with hw | hw
    · simp only [List.mem_cons, List.not_mem_nil, or_false] at hw
      rcases hw with rfl | rfl | rfl | rfl
      · exact hln
      · exact m1
      · exact m2
      · exact m3
    · rcases List.mem_cons.mp hw with rfl | hw
      · exact m4
      · exact hw)
  obtain ⟨z, hz1, hz2⟩ : ∃ z, vwCl[ci]? = some z ∧ z.1 = y.cls := by
    cases hzz : vwCl[ci]? with
    | none => rw [hzz] at hc; cases hc
    | some z => rw [hzz] at hc; exact ⟨z, rfl, by simpa using hc⟩
  have hrec := va_recv C.2.2.2.2.2.2.2.1 hP hz1 (wld_get hs)
  rw [hz2] at hrec
  refine va_calll (va_runV (As := As) (rest := st) ⟨C.1, C.2.1, C.2.2.2.1, C.2.2.2.2.1, C.2.2.2.2.2.1⟩ hM (cwV q C.2.2.2.2.2.1 hg rfl rfl rfl ⟨rfl, m5, m6, m7⟩ ⟨Nat.le_refl _, by show 8 + (nB + 11) + 40 * d ≤ 40 * (d + 1); omega⟩) ⟨blindG g _ M L, hrec, fun U hU hW => ⟨rfl, by rw [hU]; exact hP, C.2.2.2.2.2.2.2.move hS hU hW⟩⟩ rfl hq hl.1 rfl (lv_room hroom) hdg ⟨Nat.le_refl _, Nat.le_refl _⟩) hS (fun q _ h => h) (fun q h => h) (fun r u t H1 locs1 ht hvm hw hB hz hk hS1 => ?_)
  obtain ⟨hw1, hw2⟩ := hw
  subst hw1; subst hw2
  subst ht
  exact k p e s m args below meth c _ locs1 ls C hl hB hS1
theorem tm_callS_L {y : MethodName} {cb : ByteArray} {nB index q : Nat} {av : List Value} {F : Int64} {M1 : MI} {L1 : ML} {stk : List Value} (hM : CfL g d y cb nB av M L F M1 L1) (hm : MS y cb nB (some .long) q) (hln : Cond.methodLink own index y ∈ tbU) (hq : av.length = q) (hst : stk = av.reverse ++ st) (hroom : (st.map fun v => v.category).sum ≤ 8) (n : Nat) (hn : pc + 3 = n) (hdg : decode cc pc = .ok (.invokestatic index, 3)) (k : Tm g (d + 1) own cc nL ret Qc n l (.long F :: st) M1 L1) : Tm g (d + 1) own cc nL ret Qc pc l stk M L := by
  subst hn; subst hst
  intro p e s m args below meth c H locs ls C hl hP hS
  obtain ⟨m1, m3, m4, ⟨m5, m6, m7⟩, m8⟩ := hm
  have hg : GoodIn tbU (va_wsS own index y (wsU y cb nB (some .long))) := tb_goodIn (fun w hw => by
    rcases List.mem_append.mp hw with hw | hw
    · simp only [List.mem_cons, List.not_mem_nil, or_false] at hw
      rcases hw with rfl | rfl | rfl
      · exact hln
      · exact m1
      · exact m3
    · rcases List.mem_cons.mp hw with rfl | hw
      · exact m4
      · exact hw)
  refine va_calll (va_runS (As := av) (rest := st) ⟨C.1, C.2.1, C.2.2.2.1, C.2.2.2.2.1, C.2.2.2.2.2.1⟩ hM (va_cwS q C.2.2.2.2.2.1 hg rfl rfl rfl ⟨m5, m6, m7⟩ ⟨Nat.le_refl _, by show 8 + (nB + 11) + 40 * d ≤ 40 * (d + 1); omega⟩) ⟨blindG g _ M L, fun U hU hW => ⟨rfl, by rw [hU]; exact hP, C.2.2.2.2.2.2.2.move hS hU hW⟩⟩ rfl hq hl.1 rfl (lv_room hroom) hdg ⟨Nat.le_refl _, Nat.le_refl _⟩) hS (fun q _ h => h) (fun q h => h) (fun r u t H1 locs1 ht hvm hw hB hz hk hS1 => ?_)
  obtain ⟨hw1, hw2⟩ := hw
  subst hw1; subst hw2
  subst ht
  exact k p e s m args below meth c _ locs1 ls C hl hB hS1
theorem tm_cpI {index i j nA nB ls_ ld ln : Nat} {sp dp x : Int32} {tg tg2 : List Nat} (hln : Cond.methodLink own index arraycopyName ∈ tbU) (hs : shp i = some (.inr (0, nA, tg))) (hs2 : shp j = some (.inr (0, nB, tg2))) (h1 : ¬ sp < 0 ∧ sp.toNatClampNeg = ls_) (h2 : ¬ dp < 0 ∧ dp.toNatClampNeg = ld) (h3 : ¬ x < 0 ∧ x.toNatClampNeg = ln) (h4 : ls_ + ln ≤ nA) (h5 : ld + ln ≤ nB) (hroom : (st.map fun v => v.category).sum ≤ 8) (n : Nat) (hn : pc + 3 = n) (hdg : decode cc pc = .ok (.invokestatic index, 3)) (k : Tm g (d + 1) own cc nL ret Qc n l st (sr M j (va_cpy (M i) (M j) ls_ ld ln)) L) : Tm g (d + 1) own cc nL ret Qc pc l (.int x :: .int dp :: rf g j :: .int sp :: rf g i :: st) M L := by
  subst hn
  obtain ⟨h1, h1b⟩ := h1; obtain ⟨h2, h2b⟩ := h2; obtain ⟨h3, h3b⟩ := h3
  subst h1b; subst h2b; subst h3b
  intro p e s m args below meth c H locs ls C hl hP hS
  refine va_copyi C.1 C.2.1 (C.2.2.2.1.trans hl.1.symm) C.2.2.2.2.1 (C.2.2.2.2.2.1 _ hln) (C.2.2.2.2.2.1 _ kac_nat) (C.2.2.2.2.2.1 _ kac_sta) (C.2.2.2.2.2.1 _ kac_ini) C.2.2.2.2.2.2.2.1 hP (wld_D C.2.2.2.2.2.2.2.2.2.2 M L) hS i j 0 0 (f := M i) (g := M j) (wld_get hs) (wld_get hs2) rfl rfl rfl h1 h2 h3 h4 h5 (fun _ _ => rfl) (by show 1 ≤ d + 1; omega) (by show _ + (nativeFrameWords "java/lang/System" "arraycopy" 5 + 11) ≤ 40 * (d + 1); have : nativeFrameWords "java/lang/System" "arraycopy" 5 + 11 ≤ 30 := (by decide +kernel); omega) hdg (fun H1 locs1 hP1 hD1 hS1 => k p e s m args below meth c H1 locs1 ls C hl ?_ hS1)
  have e1 : ∀ f : Nat → Int32, (Sum.inl (gI g, nB, Sum.inl f) : va_E) = cellE g (sr M j f) L j (.inr (0, nB, tg2)) := fun f => by
    show _ = (Sum.inl (gI g, nB, Sum.inl (sr M j f j)) : va_E)
    rw [sr_eq]
  rw [e1, wld_set _ hs2] at hP1
  exact hP1
theorem tm_cpL {index i j nA nB ls_ ld ln : Nat} {sp dp x : Int32} {tg tg2 : List Nat} (hln : Cond.methodLink own index arraycopyName ∈ tbU) (hs : shp i = some (.inr (1, nA, tg))) (hs2 : shp j = some (.inr (1, nB, tg2))) (h1 : ¬ sp < 0 ∧ sp.toNatClampNeg = ls_) (h2 : ¬ dp < 0 ∧ dp.toNatClampNeg = ld) (h3 : ¬ x < 0 ∧ x.toNatClampNeg = ln) (h4 : ls_ + ln ≤ nA) (h5 : ld + ln ≤ nB) (hroom : (st.map fun v => v.category).sum ≤ 8) (n : Nat) (hn : pc + 3 = n) (hdg : decode cc pc = .ok (.invokestatic index, 3)) (k : Tm g (d + 1) own cc nL ret Qc n l st M (srL L j (va_cpy (L i) (L j) ls_ ld ln))) : Tm g (d + 1) own cc nL ret Qc pc l (.int x :: .int dp :: rf g j :: .int sp :: rf g i :: st) M L := by
  subst hn
  obtain ⟨h1, h1b⟩ := h1; obtain ⟨h2, h2b⟩ := h2; obtain ⟨h3, h3b⟩ := h3
  subst h1b; subst h2b; subst h3b
  intro p e s m args below meth c H locs ls C hl hP hS
  refine va_copyl C.1 C.2.1 (C.2.2.2.1.trans hl.1.symm) C.2.2.2.2.1 (C.2.2.2.2.2.1 _ hln) (C.2.2.2.2.2.1 _ kac_nat) (C.2.2.2.2.2.1 _ kac_sta) (C.2.2.2.2.2.1 _ kac_ini) C.2.2.2.2.2.2.2.1 hP (wld_D C.2.2.2.2.2.2.2.2.2.2 M L) hS i j 1 1 (f := L i) (g := L j) (wld_get hs) (wld_get hs2) rfl rfl rfl h1 h2 h3 h4 h5 (fun _ _ => rfl) (by show 1 ≤ d + 1; omega) (by show _ + (nativeFrameWords "java/lang/System" "arraycopy" 5 + 11) ≤ 40 * (d + 1); have : nativeFrameWords "java/lang/System" "arraycopy" 5 + 11 ≤ 30 := (by decide +kernel); omega) hdg (fun H1 locs1 hP1 hD1 hS1 => k p e s m args below meth c H1 locs1 ls C hl ?_ hS1)
  have e1 : ∀ f : Nat → Int64, (Sum.inl (gJ g, nB, Sum.inr (Sum.inl f)) : va_E) = cellE g M (srL L j f) j (.inr (1, nB, tg2)) := fun f => by
    show _ = (Sum.inl (gJ g, nB, Sum.inr (Sum.inl (srL L j f j))) : va_E)
    rw [srL_eq]
  rw [e1, wld_setL _ hs2] at hP1
  exact hP1
theorem tm_loop {N : Nat} (S : Nat → Prop) (hs : ∀ k, k < N → S (k + 1) → S k) (hx : S N) : S 0 := by
  have h : ∀ k, k ≤ N → S (N - k) := by
    intro k
    induction k with
    | zero => intro _; exact hx
    | succ k ih =>
      intro hk
      have e : N - (k + 1) + 1 = N - k := by omega
      exact hs (N - (k + 1)) (by omega) (by rw [e]; exact ih (by omega))
  have h0 := h N (Nat.le_refl N)
  rwa [Nat.sub_self] at h0
theorem tm_loopE {N : Nat} (P : Nat → Prop) (S : Nat → Prop) (hp : P 0) (hs : ∀ k, k < N → P k → (P (k + 1) → S (k + 1)) → S k) (hx : P N → S N) : S 0 := by
  have h : ∀ k, k ≤ N → P (N - k) → S (N - k) := by
    intro k
    induction k with
    | zero => intro _ q; exact hx q
    | succ k ih =>
      intro hk q
      have e : N - (k + 1) + 1 = N - k := by omega
      exact hs (N - (k + 1)) (by omega) q (by rw [e]; exact ih (by omega))
  have h0 := h N (Nat.le_refl N)
  rw [Nat.sub_self] at h0
  exact h0 hp
end Toy

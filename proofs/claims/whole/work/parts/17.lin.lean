/-! weights that tell a function: rows by their numbers, the first of the least -/
def mkI (a b c d : Nat) : Nat := ((a * 9 + b) * 9 + c) * 9 + d
def dgN (i v : Nat) : Nat := i / 9 ^ (3 - v) % 9
def dg (i v : Nat) : Int := (dgN i v : Int) - 4
def sm (i : Nat) : Nat := (dg i 0).natAbs + (dg i 1).natAbs + (dg i 2).natAbs + (dg i 3).natAbs
theorem dgN_0 (i : Nat) : dgN i 0 = i / 729 % 9 := rfl
theorem dgN_1 (i : Nat) : dgN i 1 = i / 81 % 9 := rfl
theorem dgN_2 (i : Nat) : dgN i 2 = i / 9 % 9 := rfl
theorem dgN_3 (i : Nat) : dgN i 3 = i % 9 := by show i / 1 % 9 = _; rw [Nat.div_one]
theorem dgN_lt (i v : Nat) : dgN i v < 9 := Nat.mod_lt _ (by decide)
theorem dg_rng (i v : Nat) : -4 ≤ dg i v ∧ dg i v ≤ 4 := by
  have := dgN_lt i v
  unfold dg
  omega
theorem mkI_dg {a b c d : Nat} (ha : a < 9) (hb : b < 9) (hc : c < 9) (hd : d < 9) : dgN (mkI a b c d) 0 = a ∧ dgN (mkI a b c d) 1 = b ∧ dgN (mkI a b c d) 2 = c ∧ dgN (mkI a b c d) 3 = d ∧ mkI a b c d < 6561 := by
  rw [dgN_0, dgN_1, dgN_2, dgN_3]
  unfold mkI
  omega
theorem mkI_of {i : Nat} (h : i < 6561) : mkI (dgN i 0) (dgN i 1) (dgN i 2) (dgN i 3) = i := by
  rw [dgN_0, dgN_1, dgN_2, dgN_3]
  unfold mkI
  omega
/-- row i with voter v's weight 0 -/
def z0 (i v : Nat) : Nat := mkI (if v = 0 then 4 else dgN i 0) (if v = 1 then 4 else dgN i 1) (if v = 2 then 4 else dgN i 2) (if v = 3 then 4 else dgN i 3)
theorem ite9 {p : Prop} [Decidable p] {a : Nat} (h : a < 9) : (if p then 4 else a) < 9 := by split <;> omega
theorem z0_dg (i v u : Nat) (hu : u < 4) : dg (z0 i v) u = if u = v then 0 else dg i u := by
  have H := mkI_dg (ite9 (p := v = 0) (dgN_lt i 0)) (ite9 (p := v = 1) (dgN_lt i 1)) (ite9 (p := v = 2) (dgN_lt i 2)) (ite9 (p := v = 3) (dgN_lt i 3))
  unfold dg z0
  rcases (show u = 0 ∨ u = 1 ∨ u = 2 ∨ u = 3 by omega) with rfl | rfl | rfl | rfl
  · rw [H.1]; by_cases q : v = 0
    · subst q; rfl
    · rw [if_neg q, if_neg (fun z => q z.symm)]
  · rw [H.2.1]; by_cases q : v = 1
    · subst q; rfl
    · rw [if_neg q, if_neg (fun z => q z.symm)]
  · rw [H.2.2.1]; by_cases q : v = 2
    · subst q; rfl
    · rw [if_neg q, if_neg (fun z => q z.symm)]
  · rw [H.2.2.2.1]; by_cases q : v = 3
    · subst q; rfl
    · rw [if_neg q, if_neg (fun z => q z.symm)]
theorem z0_lt (i v : Nat) : z0 i v < 6561 := (mkI_dg (ite9 (dgN_lt i 0)) (ite9 (dgN_lt i 1)) (ite9 (dgN_lt i 2)) (ite9 (dgN_lt i 3))).2.2.2.2
theorem z0_sm {i v : Nat} (hv : v < 4) (h : dg i v ≠ 0) : sm (z0 i v) < sm i := by
  unfold sm
  rw [z0_dg i v 0 (by omega), z0_dg i v 1 (by omega), z0_dg i v 2 (by omega), z0_dg i v 3 (by omega)]
  rcases (show v = 0 ∨ v = 1 ∨ v = 2 ∨ v = 3 by omega) with rfl | rfl | rfl | rfl
  · simp; omega
  · simp; omega
  · simp; omega
  · simp; omega
/-- the worth as a whole number -/
def WI (r : Nat → Int) (k : Nat) : Nat → Int
  | 0 => 0
  | v + 1 => WI r k v + (if k.testBit v then r v else 0)
theorem WI_congr {r r2 : Nat → Int} {k k2 : Nat} : ∀ {n : Nat}, (∀ v, v < n → (if k.testBit v then r v else 0) = (if k2.testBit v then r2 v else 0)) → WI r k n = WI r2 k2 n
  | 0, _ => rfl
  | n + 1, h => by
    unfold WI
    rw [WI_congr (fun v hv => h v (by omega)), h n (by omega)]
theorem tb_x {k v u : Nat} (h : u ≠ v) : (k ^^^ 2 ^ v).testBit u = k.testBit u := by
  rw [Nat.testBit_xor, Nat.testBit_two_pow_of_ne (fun q => h q.symm), Bool.xor_false]
theorem tb_xs (k v : Nat) : (k ^^^ 2 ^ v).testBit v = !k.testBit v := by
  rw [Nat.testBit_xor, Nat.testBit_two_pow_self, Bool.xor_true]
theorem WI_flip {r : Nat → Int} {k v : Nat} (hk : k.testBit v = true) : ∀ {n : Nat}, v < n → WI r k n = WI r (k ^^^ 2 ^ v) n + r v
  | 0, h => absurd h (by omega)
  | n + 1, h => by
    unfold WI
    by_cases e : v = n
    · subst e
      rw [if_pos hk, tb_xs, hk, if_neg (by decide), WI_congr (k2 := k ^^^ 2 ^ v) (r2 := r) (fun u hu => by rw [tb_x (by omega)])]
      omega
    · rw [WI_flip hk (show v < n by omega), tb_x (fun q => e q.symm)]
      omega
theorem wth_I {w : Nat → Int32} {r : Nat → Int} {k : Nat} : ∀ {n : Nat}, n ≤ 4 → (∀ v, v < n → (w v).toInt = r v ∧ -9 ≤ r v ∧ r v ≤ 9) → (wth w k n).toInt = WI r k n ∧ -(9 * (n : Int)) ≤ WI r k n ∧ WI r k n ≤ 9 * (n : Int)
  | 0, _, _ => ⟨rfl, by simp [WI], by simp [WI]⟩
  | n + 1, hn, h => by
    obtain ⟨a1, a2, a3⟩ := wth_I (k := k) (show n ≤ 4 by omega) (fun v hv => h v (by omega))
    obtain ⟨b1, b2, b3⟩ := h n (by omega)
    unfold wth WI
    cases q : k.testBit n
    · rw [if_neg (by decide), show bI false = (0 : Int32) from rfl, Int32.zero_mul, Int32.add_zero, a1]
      refine ⟨by omega, ?_, ?_⟩ <;> (simp only [Int.natCast_add]; omega)
    · rw [if_pos rfl, show bI true = (1 : Int32) from rfl, Int32.one_mul, fb_addI (by omega) (by omega), a1, b1]
      refine ⟨rfl, ?_, ?_⟩ <;> (simp only [Int.natCast_add]; omega)
theorem lsF_spec (p : Nat → Bool) (wt : Nat → Int32) (a : Int32) : ∀ N, (∀ k, k < N → p k = true → (lsF p wt a N).toInt ≤ (wt k).toInt) ∧ (lsF p wt a N).toInt ≤ a.toInt ∧ (lsF p wt a N = a ∨ ∃ k, k < N ∧ p k = true ∧ lsF p wt a N = wt k)
  | 0 => ⟨fun k hk => absurd hk (by omega), Int.le_refl _, Or.inl rfl⟩
  | N + 1 => by
    obtain ⟨h1, h2, h3⟩ := lsF_spec p wt a N
    unfold lsF
    by_cases c : p N = true ∧ wt N < lsF p wt a N
    · rw [if_pos c]
      have c2 := (fa_lt _ _).mp c.2
      refine ⟨fun k hk hp => ?_, by omega, Or.inr ⟨N, by omega, c.1, rfl⟩⟩
      rcases Nat.lt_succ_iff_lt_or_eq.mp hk with q | q
      · have := h1 k q hp; omega
      · subst q; exact Int.le_refl _
    · rw [if_neg c]
      refine ⟨fun k hk hp => ?_, h2, ?_⟩
      · rcases Nat.lt_succ_iff_lt_or_eq.mp hk with q | q
        · exact h1 k q hp
        · subst q
          have : ¬ wt k < lsF p wt a k := fun z => c ⟨hp, z⟩
          rw [fa_lt] at this
          omega
      · rcases h3 with q | ⟨k, q1, q2, q3⟩
        · exact Or.inl q
        · exact Or.inr ⟨k, by omega, q2, q3⟩
theorem gtF_spec (p : Nat → Bool) (wt : Nat → Int32) (a : Int32) : ∀ N, (∀ k, k < N → p k = true → (wt k).toInt ≤ (gtF p wt a N).toInt) ∧ a.toInt ≤ (gtF p wt a N).toInt ∧ (gtF p wt a N = a ∨ ∃ k, k < N ∧ p k = true ∧ gtF p wt a N = wt k)
  | 0 => ⟨fun k hk => absurd hk (by omega), Int.le_refl _, Or.inl rfl⟩
  | N + 1 => by
    obtain ⟨h1, h2, h3⟩ := gtF_spec p wt a N
    unfold gtF
    by_cases c : p N = true ∧ gtF p wt a N < wt N
    · rw [if_pos c]
      have c2 := (fa_lt _ _).mp c.2
      refine ⟨fun k hk hp => ?_, by omega, Or.inr ⟨N, by omega, c.1, rfl⟩⟩
      rcases Nat.lt_succ_iff_lt_or_eq.mp hk with q | q
      · have := h1 k q hp; omega
      · subst q; exact Int.le_refl _
    · rw [if_neg c]
      refine ⟨fun k hk hp => ?_, h2, ?_⟩
      · rcases Nat.lt_succ_iff_lt_or_eq.mp hk with q | q
        · exact h1 k q hp
        · subst q
          have : ¬ gtF p wt a k < wt k := fun z => c ⟨hp, z⟩
          rw [fa_lt] at this
          omega
      · rcases h3 with q | ⟨k, q1, q2, q3⟩
        · exact Or.inl q
        · exact Or.inr ⟨k, by omega, q2, q3⟩
/-- do the weights r tell the function c -/
def tlB (n c : Nat) (r : Nat → Int) : Bool := (List.range (2 ^ n)).all fun a => !c.testBit a || (List.range (2 ^ n)).all fun b => c.testBit b || decide (WI r b n < WI r a n)
theorem tlB_iff {n c : Nat} {r : Nat → Int} : tlB n c r = true ↔ ∀ a, a < 2 ^ n → c.testBit a = true → ∀ b, b < 2 ^ n → c.testBit b = false → WI r b n < WI r a n := by
  unfold tlB
  rw [List.all_eq_true]
  constructor
  · intro h a ha hca b hb hcb
    have h1 := h a (List.mem_range.mpr ha)
    rw [hca] at h1
    simp only [Bool.not_true, Bool.false_or, List.all_eq_true] at h1
    have h2 := h1 b (List.mem_range.mpr hb)
    rw [hcb] at h2
    simpa using h2
  · intro h a ha
    cases q : c.testBit a
    · rfl
    · simp only [Bool.not_true, Bool.false_or, List.all_eq_true]
      intro b hb
      cases z : c.testBit b
      · simpa using h a (List.mem_range.mp ha) q b (List.mem_range.mp hb) z
      · rfl
theorem tl_dec {n c : Nat} {wt : Nat → Int32} {r : Nat → Int} {a b : Int32} {A : Int} (ha : a.toInt = A) (hb : b.toInt = -A) (hA : 36 < A) (h4 : n ≤ 4) (hw : ∀ k, (wt k).toInt = WI r k n ∧ -36 ≤ WI r k n ∧ WI r k n ≤ 36) :
    decide (gtF (fun k => !c.testBit k) wt b (2 ^ n) < lsF c.testBit wt a (2 ^ n)) = tlB n c r := by
  obtain ⟨l1, l2, l3⟩ := lsF_spec c.testBit wt a (2 ^ n)
  obtain ⟨g1, g2, g3⟩ := gtF_spec (fun k => !c.testBit k) wt b (2 ^ n)
  generalize lsF c.testBit wt a (2 ^ n) = x at l1 l2 l3 ⊢
  generalize gtF (fun k => !c.testBit k) wt b (2 ^ n) = y at g1 g2 g3 ⊢
  cases q : tlB n c r
  · apply decide_eq_false
    intro h
    rw [fa_lt] at h
    have : tlB n c r = true := tlB_iff.mpr (fun s hs hcs t ht hct => by
      have e1 := l1 s hs hcs
      have e2 := g1 t ht (by simp [hct])
      have := (hw s).1; have := (hw t).1
      omega)
    rw [q] at this
    cases this
  · apply decide_eq_true
    rw [fa_lt]
    have h := tlB_iff.mp q
    rcases l3 with e | ⟨s, s1, s2, s3⟩
    · rcases g3 with f | ⟨t, t1, t2, t3⟩
      · rw [e, f]; omega
      · have := hw t
        rw [e, t3]; omega
    · rcases g3 with f | ⟨t, t1, t2, t3⟩
      · have := hw s
        rw [s3, f]; omega
      · have := h s s1 s2 t t1 (by simpa using t2)
        have := hw s; have := hw t
        rw [s3, t3]; omega
/-- the first of the least of those for which P holds -/
def bst (P : Nat → Bool) : Nat → Option Nat
  | 0 => none
  | i + 1 => match bst P i with
    | none => if P i then some i else none
    | some j => if P i && decide (sm i < sm j) then some i else some j
theorem bst_spec (P : Nat → Bool) : ∀ N, (bst P N = none ∧ ∀ j, j < N → P j = false) ∨ ∃ i, bst P N = some i ∧ i < N ∧ P i = true ∧ (∀ j, j < N → P j = true → sm i ≤ sm j) ∧ ∀ j, j < i → P j = true → sm i < sm j
  | 0 => Or.inl ⟨rfl, fun j hj => absurd hj (by omega)⟩
  | N + 1 => by
    rcases bst_spec P N with ⟨h1, h2⟩ | ⟨i, h1, h2, h3, h4, h5⟩
    · unfold bst
      rw [h1]
      cases q : P N
      · refine Or.inl ⟨rfl, fun j hj => ?_⟩
        rcases Nat.lt_succ_iff_lt_or_eq.mp hj with z | z
        · exact h2 j z
        · subst z; exact q
      · refine Or.inr ⟨N, rfl, by omega, q, fun j hj hp => ?_, fun j hj hp => ?_⟩
        · rcases Nat.lt_succ_iff_lt_or_eq.mp hj with z | z
          · rw [h2 j z] at hp; cases hp
          · subst z; exact Nat.le_refl _
        · rw [h2 j hj] at hp; cases hp
    · unfold bst
      rw [h1]
      by_cases c : P N = true ∧ sm N < sm i
      · have e : (P N && decide (sm N < sm i)) = true := by rw [c.1, decide_eq_true c.2]; rfl
        refine Or.inr ⟨N, by simp only [e, if_true], by omega, c.1, fun j hj hp => ?_, fun j hj hp => ?_⟩
        · rcases Nat.lt_succ_iff_lt_or_eq.mp hj with z | z
          · have := h4 j z hp; omega
          · subst z; exact Nat.le_refl _
        · have := h4 j hj hp; omega
      · have e : ¬ (P N && decide (sm N < sm i)) = true := by
          intro z
          rw [Bool.and_eq_true, decide_eq_true_eq] at z
          exact c z
        refine Or.inr ⟨i, by simp only [e]; rfl, by omega, h3, fun j hj hp => ?_, h5⟩
        rcases Nat.lt_succ_iff_lt_or_eq.mp hj with z | z
        · exact h4 j z hp
        · subst z
          have : ¬ sm j < sm i := fun q => c ⟨hp, q⟩
          omega
theorem bst_uniq {P : Nat → Bool} {N i : Nat} (h1 : i < N) (h2 : P i = true) (h3 : ∀ j, j < N → P j = true → sm i ≤ sm j) (h4 : ∀ j, j < i → P j = true → sm i < sm j) : bst P N = some i := by
  rcases bst_spec P N with ⟨a1, a2⟩ | ⟨k, a1, a2, a3, a4, a5⟩
  · rw [a2 i h1] at h2; cases h2
  · rw [a1]
    have e1 := h3 k a2 a3
    have e2 := a4 i h1 h2
    rcases Nat.lt_trichotomy i k with q | q | q
    · have := a5 i q h2; omega
    · rw [q]
    · have := h4 k q a3; omega
theorem bst_skip {P : Nat → Bool} {a : Nat} : ∀ (m : Nat), (∀ j, a ≤ j → j < a + m → P j = false) → bst P (a + m) = bst P a
  | 0, _ => rfl
  | m + 1, h => by
    have ih := bst_skip (P := P) (a := a) m (fun j h1 h2 => h j h1 (by omega))
    have hp := h (a + m) (by omega) (by omega)
    have e : bst P (a + (m + 1)) = (match bst P (a + m) with | none => if P (a + m) then some (a + m) else none | some j => if P (a + m) && decide (sm (a + m) < sm j) then some (a + m) else some j) := rfl
    rw [e, ih, hp]
    cases bst P a <;> simp
theorem bst_none {P : Nat → Bool} {N : Nat} (h : ∀ j, j < N → P j = false) : bst P N = none := by
  rcases bst_spec P N with ⟨a1, _⟩ | ⟨k, _, a2, a3, _⟩
  · exact a1
  · rw [h k a2] at a3; cases a3
/-- the lots with a voter that are no, though they are yes without that voter -/
def lsN (n c v : Nat) : Nat := bits (2 ^ n) (fun k => c.testBit (k ^^^ 2 ^ v) && !c.testBit k && k.testBit v)
theorem bits_0 {N : Nat} {f : Nat → Bool} : bits N f = 0 ↔ ∀ k, k < N → f k = false := by
  constructor
  · intro h k hk
    have := bits_test f N k
    rw [h] at this
    simpa [hk] using this.symm
  · intro h
    refine bits_ext (bits_lt _ _) (Nat.two_pow_pos _) (fun k hk => ?_)
    rw [bits_test, h k hk]
    simp
theorem lsN_no {n c v : Nat} (h : lsN n c v = 0) {k : Nat} (hk : k < 2 ^ n) (hb : k.testBit v = true) : ¬ (c.testBit (k ^^^ 2 ^ v) = true ∧ c.testBit k = false) := by
  intro ⟨h1, h2⟩
  have := bits_0.mp h k hk
  rw [h1, h2, hb] at this
  cases this
theorem lsN_yes {n c v : Nat} (h : ¬ lsN n c v = 0) : ∃ k, k < 2 ^ n ∧ k.testBit v = true ∧ c.testBit (k ^^^ 2 ^ v) = true ∧ c.testBit k = false := by
  rcases Classical.em (∃ k, k < 2 ^ n ∧ k.testBit v = true ∧ c.testBit (k ^^^ 2 ^ v) = true ∧ c.testBit k = false) with q | q
  · exact q
  · exfalso
    apply h
    apply bits_0.mpr
    intro k hk
    cases a : c.testBit (k ^^^ 2 ^ v)
    · rfl
    · cases b : c.testBit k
      · cases d : k.testBit v
        · rfl
        · exact absurd ⟨k, hk, d, a, b⟩ q
      · rfl
theorem opN_t {n c k : Nat} (hk : k < 2 ^ n) : (opN n c).testBit k = !c.testBit k := by
  unfold opN
  rw [bits_test, decide_eq_true hk, Bool.true_and]
theorem xlt {n k v : Nat} (hk : k < 2 ^ n) (hv : v < n) : k ^^^ 2 ^ v < 2 ^ n := Nat.xor_lt_two_pow hk (Nat.pow_lt_pow_right (by omega) hv)
/-- a voter that makes a lot yes weighs more than 0, one that makes it no less -/
theorem tl_win {n c v : Nat} {r : Nat → Int} (ht : tlB n c r = true) (hv : v < n) (h : ¬ lsN n (opN n c) v = 0) : 0 < r v := by
  obtain ⟨k, hk, hb, h1, h2⟩ := lsN_yes h
  rw [opN_t (xlt hk hv)] at h1
  rw [opN_t hk] at h2
  have := tlB_iff.mp ht k hk (by simpa using h2) (k ^^^ 2 ^ v) (xlt hk hv) (by simpa using h1)
  have e := WI_flip (r := r) hb hv
  omega
theorem tl_lose {n c v : Nat} {r : Nat → Int} (ht : tlB n c r = true) (hv : v < n) (h : ¬ lsN n c v = 0) : r v < 0 := by
  obtain ⟨k, hk, hb, h1, h2⟩ := lsN_yes h
  have := tlB_iff.mp ht (k ^^^ 2 ^ v) (xlt hk hv) h1 k hk h2
  have e := WI_flip (r := r) hb hv
  omega
theorem dummy {n c v : Nat} (hv : v < n) (h1 : lsN n (opN n c) v = 0) (h2 : lsN n c v = 0) {k : Nat} (hk : k < 2 ^ n) : c.testBit (k ^^^ 2 ^ v) = c.testBit k := by
  have key : ∀ k, k < 2 ^ n → k.testBit v = true → c.testBit (k ^^^ 2 ^ v) = c.testBit k := by
    intro k hk hb
    have a := lsN_no h1 hk hb
    rw [opN_t (xlt hk hv), opN_t hk] at a
    have b := lsN_no h2 hk hb
    revert a b
    cases c.testBit (k ^^^ 2 ^ v) <;> cases c.testBit k <;> simp
  cases hb : k.testBit v
  · have := key (k ^^^ 2 ^ v) (xlt hk hv) (by rw [tb_xs, hb]; rfl)
    rw [Nat.xor_assoc, Nat.xor_self, Nat.xor_zero] at this
    exact this.symm
  · exact key k hk hb
/-- a voter that does neither can weigh 0 -/
theorem tl_zero {n c v : Nat} {r r2 : Nat → Int} (hv : v < n) (h1 : lsN n (opN n c) v = 0) (h2 : lsN n c v = 0) (hr : ∀ u, u < n → r2 u = if u = v then 0 else r u) (ht : tlB n c r = true) : tlB n c r2 = true := by
  have key : ∀ a, a < 2 ^ n → ∃ a0, a0 < 2 ^ n ∧ c.testBit a0 = c.testBit a ∧ WI r2 a n = WI r a0 n := by
    intro a ha
    have base : ∀ a, a.testBit v = false → WI r2 a n = WI r a n := by
      intro a hb
      refine WI_congr (fun u hu => ?_)
      rw [hr u hu]
      by_cases e : u = v
      · subst e; rw [hb]; simp
      · rw [if_neg e]
    cases hb : a.testBit v
    · exact ⟨a, ha, rfl, base a hb⟩
    · refine ⟨a ^^^ 2 ^ v, xlt ha hv, dummy hv h1 h2 ha, ?_⟩
      rw [WI_flip hb hv, hr v hv, if_pos rfl, base _ (by rw [tb_xs, hb]; rfl)]
      omega
  apply tlB_iff.mpr
  intro a ha hca b hb hcb
  obtain ⟨a0, a1, a2, a3⟩ := key a ha
  obtain ⟨b0, b1, b2, b3⟩ := key b hb
  rw [a3, b3]
  exact tlB_iff.mp ht a0 a1 (by rw [a2]; exact hca) b0 b1 (by rw [b2]; exact hcb)
/-- all rows; those in the class's bounds -/
def P1 (n c i : Nat) : Bool := ((List.range 4).all fun v => decide (v < n) || decide (dg i v = 0)) && tlB n c (dg i)
def loB (n c v : Nat) : Int := if v < n then (if lsN n (opN n c) v = 0 then (if lsN n c v = 0 then 0 else -4) else 1) else 0
def hiB (n c v : Nat) : Int := if v < n then (if lsN n (opN n c) v = 0 then (if lsN n c v = 0 then 0 else -1) else 4) else 0
def P2 (n c i : Nat) : Bool := ((List.range 4).all fun v => decide (loB n c v ≤ dg i v) && decide (dg i v ≤ hiB n c v)) && tlB n c (dg i)
theorem P1_iff {n c i : Nat} : P1 n c i = true ↔ (∀ v, v < 4 → n ≤ v → dg i v = 0) ∧ tlB n c (dg i) = true := by
  unfold P1
  rw [Bool.and_eq_true, List.all_eq_true]
  constructor
  · rintro ⟨h, ht⟩
    refine ⟨fun v hv hn => ?_, ht⟩
    have := h v (List.mem_range.mpr hv)
    simp only [Bool.or_eq_true, decide_eq_true_eq] at this
    omega
  · rintro ⟨h, ht⟩
    refine ⟨fun v hv => ?_, ht⟩
    simp only [Bool.or_eq_true, decide_eq_true_eq]
    by_cases q : v < n
    · exact Or.inl q
    · exact Or.inr (h v (List.mem_range.mp hv) (by omega))
theorem P2_iff {n c i : Nat} : P2 n c i = true ↔ (∀ v, v < 4 → loB n c v ≤ dg i v ∧ dg i v ≤ hiB n c v) ∧ tlB n c (dg i) = true := by
  unfold P2
  rw [Bool.and_eq_true, List.all_eq_true]
  constructor
  · rintro ⟨h, ht⟩
    refine ⟨fun v hv => ?_, ht⟩
    have := h v (List.mem_range.mpr hv)
    simpa [Bool.and_eq_true, decide_eq_true_eq] using this
  · rintro ⟨h, ht⟩
    refine ⟨fun v hv => ?_, ht⟩
    have := h v (List.mem_range.mp hv)
    simp [Bool.and_eq_true, decide_eq_true_eq, this.1, this.2]
theorem tlB_congr {n c : Nat} {r r2 : Nat → Int} (h : ∀ u, u < n → r u = r2 u) : tlB n c r = tlB n c r2 := by
  have : ∀ k, WI r k n = WI r2 k n := fun k => WI_congr (fun v hv => by rw [h v hv])
  unfold tlB
  simp only [this]
theorem lin_no {n c v : Nat} (hn : n ≤ 4) (hv : v < n) (h1 : ¬ lsN n (opN n c) v = 0) (h2 : ¬ lsN n c v = 0) : bst (P1 n c) 6561 = none := by
  apply bst_none
  intro j _
  cases q : P1 n c j
  · rfl
  · have ht := (P1_iff.mp q).2
    have a := tl_win ht hv h1
    have b := tl_lose ht hv h2
    omega
theorem lin_eq {n c : Nat} (hn : n ≤ 4) (hb : ∀ v, v < n → lsN n (opN n c) v = 0 ∨ lsN n c v = 0) : bst (P2 n c) 6561 = bst (P1 n c) 6561 := by
  have sub : ∀ i, P2 n c i = true → P1 n c i = true := by
    intro i h
    obtain ⟨h1, h2⟩ := P2_iff.mp h
    refine P1_iff.mpr ⟨fun v hv hnv => ?_, h2⟩
    have := h1 v hv
    unfold loB hiB at this
    rw [if_neg (by omega), if_neg (by omega)] at this
    omega
  rcases bst_spec (P1 n c) 6561 with ⟨a1, a2⟩ | ⟨i, a1, a2, a3, a4, a5⟩
  · rw [a1]
    apply bst_none
    intro j hj
    cases q : P2 n c j
    · rfl
    · have := sub j q
      rw [a2 j hj] at this; cases this
  · rw [a1]
    have hi : P2 n c i = true := by
      obtain ⟨b1, b2⟩ := P1_iff.mp a3
      refine P2_iff.mpr ⟨fun v hv => ?_, b2⟩
      have hr := dg_rng i v
      unfold loB hiB
      by_cases q : v < n
      · rw [if_pos q, if_pos q]
        by_cases w : lsN n (opN n c) v = 0
        · rw [if_pos w, if_pos w]
          by_cases l : lsN n c v = 0
          · rw [if_pos l, if_pos l]
            by_cases z : dg i v = 0
            · omega
            · exfalso
              have hz : P1 n c (z0 i v) = true := by
                refine P1_iff.mpr ⟨fun u hu hnu => ?_, tl_zero q w l (fun u hu => z0_dg i v u (by omega)) b2⟩
                rw [z0_dg i v u hu]
                split
                · rfl
                · exact b1 u hu hnu
              have := a4 _ (z0_lt i v) hz
              have := z0_sm hv z
              omega
          · rw [if_neg l, if_neg l]
            have := tl_lose b2 q l
            omega
        · rw [if_neg w, if_neg w]
          have := tl_win b2 q w
          omega
      · rw [if_neg q, if_neg q]
        have := b1 v hv (by omega)
        omega
    exact bst_uniq a2 hi (fun j hj hp => a4 j hj (sub j hp)) (fun j hj hp => a5 j hj (sub j hp))

/-! numbers and bits, as both sides use them -/
theorem iinc1 (k : Nat) : nI k + Int32.ofInt 1 = nI (k + 1) := nI_1 k
theorem sl32 : ∀ n, n < 32 → ((nI n &&& 31).toBitVec.smod 32).toNat = n := by decide +kernel
theorem sh_1 : ∀ k, k < 31 → (1 : Int32) <<< (nI k &&& 31) = nI (2 ^ k) := by decide +kernel
theorem sh_r {c k : Nat} (hc : c < 2 ^ 31) (hk : k < 32) : nI c >>> (nI k &&& 31) = nI (c / 2 ^ k) := pk_shrN hc _ k (sl32 k hk)
theorem sh_l {c k : Nat} (hk : k < 32) (h : c * 2 ^ k < 2 ^ 32) : nI c <<< (nI k &&& 31) = nI (c * 2 ^ k) := pk_shlN _ k (sl32 k hk) h
theorem tb_div (c k : Nat) : c / 2 ^ k % 2 = (c.testBit k).toNat := by
  rw [Nat.testBit_eq_decide_div_mod_eq]
  rcases Nat.mod_two_eq_zero_or_one (c / 2 ^ k) with h | h <;> simp [h]
theorem bit1 {c k : Nat} (hc : c < 2 ^ 31) (hk : k < 32) : (nI c >>> (nI k &&& 31)) &&& 1 = nI (c.testBit k).toNat := by
  rw [sh_r hc hk, show (1 : Int32) = nI 1 from rfl, fa_and, Nat.and_one_is_mod, tb_div]
theorem bI_nI (b : Bool) : bI b = nI b.toNat := by cases b <;> rfl
theorem bit_1 {c k : Nat} (hc : c < 2 ^ 31) (hk : k < 32) : (nI c >>> (nI k &&& 31)) &&& 1 = bI (c.testBit k) := by rw [bit1 hc hk, bI_nI]
/-- a number by its bits below N -/
def bits : Nat → (Nat → Bool) → Nat
  | 0, _ => 0
  | k + 1, f => bits k f ||| (if f k then 2 ^ k else 0)
theorem bits_lt (f : Nat → Bool) : ∀ N, bits N f < 2 ^ N
  | 0 => by simp [bits]
  | k + 1 => by
    have h := bits_lt f k
    have h2 : 2 ^ k < 2 ^ (k + 1) := Nat.pow_lt_pow_right (by omega) (by omega)
    unfold bits
    apply Nat.or_lt_two_pow
    · omega
    · split
      · exact h2
      · exact Nat.two_pow_pos _
theorem bits_test (f : Nat → Bool) : ∀ N k, (bits N f).testBit k = (decide (k < N) && f k)
  | 0, k => by simp [bits]
  | N + 1, k => by
    unfold bits
    rw [Nat.testBit_or, bits_test f N k]
    by_cases e : k = N
    · subst e
      cases h : f k <;> simp [Nat.testBit_two_pow_self]
    · have h1 : (if f N = true then 2 ^ N else 0).testBit k = false := by
        split
        · exact Nat.testBit_two_pow_of_ne (fun q => e q.symm)
        · simp
      rw [h1, Bool.or_false]
      have h2 : decide (k < N + 1) = decide (k < N) := by
        by_cases q : k < N
        · simp [q, show k < N + 1 by omega]
        · simp [q, show ¬ k < N + 1 by omega]
      rw [h2]
theorem bits_ext {a b N : Nat} (ha : a < 2 ^ N) (hb : b < 2 ^ N) (h : ∀ k, k < N → a.testBit k = b.testBit k) : a = b := by
  apply Nat.eq_of_testBit_eq
  intro k
  by_cases q : k < N
  · exact h k q
  · have p : 2 ^ N ≤ 2 ^ k := Nat.pow_le_pow_right (by omega) (by omega)
    rw [Nat.testBit_lt_two_pow (by omega), Nat.testBit_lt_two_pow (by omega)]
theorem bits_self {c N : Nat} (h : c < 2 ^ N) : bits N c.testBit = c := bits_ext (bits_lt _ N) h (fun k hk => by rw [bits_test]; simp [hk])
theorem bits_congr {f f2 : Nat → Bool} {N : Nat} (h : ∀ k, k < N → f k = f2 k) : bits N f = bits N f2 := bits_ext (bits_lt _ N) (bits_lt _ N) (fun k hk => by rw [bits_test, bits_test, h k hk])
theorem tb_hi {c N k : Nat} (h : c < 2 ^ N) (hk : N ≤ k) : c.testBit k = false := by
  have p : 2 ^ N ≤ 2 ^ k := Nat.pow_le_pow_right (by omega) hk
  exact Nat.testBit_lt_two_pow (by omega)
theorem orb {o k : Nat} (b : Bool) (hk : k < 31) : nI o ||| (bI b <<< (nI k &&& 31)) = nI (o ||| (if b then 2 ^ k else 0)) := by
  cases b
  · rw [show bI false = nI 0 from rfl, sh_l (by omega) (by simp), Nat.zero_mul, fa_or]
    simp
  · rw [show bI true = (1 : Int32) from rfl, sh_1 k hk, fa_or]
    simp
/-- is x one of 0 .. N - 1 -/
def inN (x : Int32) (N : Nat) : Bool := decide (0 ≤ x.toInt ∧ x.toInt < (N : Int))
theorem inN_of {x : Int32} {N : Nat} (h : inN x N = true) : ∃ k, k < N ∧ x = nI k := by
  have h1 := of_decide_eq_true h
  refine ⟨x.toInt.toNat, by omega, ?_⟩
  have h2 := fb_rng x
  rw [fa_eq, nI_toInt (by omega)]
  omega
theorem inN_nI {k N : Nat} (h : k < 2 ^ 31) : inN (nI k) N = decide (k < N) := by
  unfold inN
  rw [nI_toInt h]
  by_cases q : k < N
  · simp [q]
  · simp [q]
theorem inN_no {x : Int32} {N : Nat} (h : inN x N = false) : x.toInt < 0 ∨ (N : Int) ≤ x.toInt := by
  have h1 := of_decide_eq_false h
  omega
theorem inN_yes {x : Int32} {N : Nat} : inN x N = true ↔ 0 ≤ x.toInt ∧ x.toInt < (N : Int) := by simp [inN]
def btw (v a b : Int64) : Bool := decide (a ≤ v ∧ v ≤ b)
theorem btw_in {x : Int32} {b : Int64} {N : Nat} (hb : b.toInt = (N : Int) - 1) : btw x.toInt64 0 b = inN x N := by
  unfold btw inN
  apply decide_eq_decide.mpr
  rw [fa_le64, fa_le64, Int32.toInt_toInt64, hb]
  have h0 : (0 : Int64).toInt = 0 := rfl
  rw [h0]
  omega
theorem btw_ab {x : Int32} {a b : Int64} (A B : Int) (ha : a.toInt = A) (hb : b.toInt = B) : btw x.toInt64 a b = decide (A ≤ x.toInt ∧ x.toInt ≤ B) := by
  unfold btw
  apply decide_eq_decide.mpr
  rw [fa_le64, fa_le64, Int32.toInt_toInt64, ha, hb]
theorem lgc_lt (x y : Int64) : lg_cmp x y < 0 ↔ x < y := by
  unfold lg_cmp
  rw [fa_lt64]
  by_cases h : x > y
  · have h1 := (fa_lt64 y x).mp h
    simp only [h, if_true]
    constructor
    · intro q; exact absurd q (by decide)
    · intro q; omega
  · by_cases h2 : x = y
    · subst h2
      simp
    · have h1 : ¬ y.toInt < x.toInt := fun q => h ((fa_lt64 y x).mpr q)
      have h3 : ¬ x.toInt = y.toInt := fun q => h2 ((fa_eq64 x y).mpr q)
      simp only [h, h2, if_false]
      constructor
      · intro _; omega
      · intro _; decide
theorem lgc_gt (x y : Int64) : 0 < lg_cmp x y ↔ y < x := by
  unfold lg_cmp
  by_cases h : x > y
  · rw [if_pos h]
    exact ⟨fun _ => h, fun _ => by decide⟩
  · rw [if_neg h]
    by_cases h2 : x = y
    · rw [if_pos h2]
      exact ⟨fun q => absurd q (by decide), fun q => absurd q h⟩
    · rw [if_neg h2]
      exact ⟨fun q => absurd q (by decide), fun q => absurd q h⟩
theorem lgc_eq (x y : Int64) : lg_cmp x y = 0 ↔ x = y := by
  unfold lg_cmp
  by_cases h : x > y
  · have h1 : ¬ x = y := fun q => by
      subst q
      have := (fa_lt64 x x).mp h
      omega
    simp only [h, h1, if_true]
    exact ⟨fun q => absurd q (by decide), fun q => q.elim⟩
  · by_cases h2 : x = y
    · subst h2
      simp
    · simp only [h, h2, if_false]
      exact ⟨fun q => absurd q (by decide), fun q => q.elim⟩
theorem nle_lt {a b : Int32} (h : ¬ a ≤ b) : b < a := fa_of_nle h
theorem pow4 {n : Nat} (h : n ≤ 4) : 2 ^ n ≤ 16 := by
  have : 2 ^ n ≤ 2 ^ 4 := Nat.pow_le_pow_right (by omega) h
  omega
theorem pow16 {n : Nat} (h : n ≤ 16) : 2 ^ n ≤ 65536 := by
  have : 2 ^ n ≤ 2 ^ 16 := Nat.pow_le_pow_right (by omega) h
  omega

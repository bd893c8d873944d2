theorem sw_out {x : Int32} {N : Nat} {hi : Int} (h : ¬ inN x N = true) (e : (N : Int) = hi + 1) : x.toInt < 0 ∨ hi < x.toInt := by
  have h1 : inN x N = false := by
    cases q : inN x N
    · rfl
    · exact absurd q h
  have := inN_no h1
  omega
def wW (v : Nat) : Nat := [43690, 52428, 61680, 65280].getD v 0
theorem wv_eq (v : Nat) : wv v = nI (wW v) := rfl
theorem wW_t : ∀ v, v < 4 → ∀ k, k < 40 → (wW v).testBit k = (decide (k < 16) && k.testBit v) := by decide +kernel
theorem wN_t : ∀ v, v < 4 → ∀ k, k < 32 → (wW v ^^^ (2 ^ 32 - 1)).testBit k = !(decide (k < 16) && k.testBit v) := by decide +kernel
def tnF (v k : Nat) : Bool := if k.testBit v then decide (2 ^ v ≤ k) && !(k - 2 ^ v).testBit v && !(k + 2 ^ v).testBit v && decide (k ^^^ 2 ^ v = k - 2 ^ v) else (k + 2 ^ v).testBit v && decide (k + 2 ^ v < 16) && (!decide (2 ^ v ≤ k) || (k - 2 ^ v).testBit v) && decide (k ^^^ 2 ^ v = k + 2 ^ v)
theorem tnF_all : ∀ v, v < 4 → ∀ k, k < 16 → tnF v k = true := by decide +kernel
theorem tn_f (v : Nat) (hv : v < 4) (k : Nat) (hk : k < 16) : (k.testBit v = true → 2 ^ v ≤ k ∧ (k - 2 ^ v).testBit v = false ∧ (k + 2 ^ v).testBit v = false ∧ k ^^^ 2 ^ v = k - 2 ^ v) ∧ (k.testBit v = false → (k + 2 ^ v).testBit v = true ∧ k + 2 ^ v < 16 ∧ (2 ^ v ≤ k → (k - 2 ^ v).testBit v = true) ∧ k ^^^ 2 ^ v = k + 2 ^ v) := by
  have h := tnF_all v hv k hk
  unfold tnF at h
  constructor
  · intro hb
    rw [if_pos hb] at h
    simp only [Bool.and_eq_true, decide_eq_true_eq, Bool.not_eq_true'] at h
    exact ⟨h.1.1.1, h.1.1.2, h.1.2, h.2⟩
  · intro hb
    rw [if_neg (by rw [hb]; decide)] at h
    simp only [Bool.and_eq_true, decide_eq_true_eq, Bool.or_eq_true, Bool.not_eq_true', decide_eq_false_iff_not] at h
    exact ⟨h.1.1.1, h.1.1.2, fun q => h.1.2.elim (fun z => absurd q z) id, h.2⟩
theorem tn_g : ∀ n, n < 5 → ∀ v, v < n → ∀ j, j < 2 ^ n → j.testBit v = false → j + 2 ^ v < 2 ^ n := by decide +kernel
/-- the class's way to turn a function, as numbers -/
theorem tnd_k {n c v : Nat} (h4 : n ≤ 4) (hc : c < 2 ^ 2 ^ n) (hv : v < n) : ((c &&& wW v) / 2 ^ 2 ^ v) ||| ((c &&& (wW v ^^^ (2 ^ 32 - 1))) * 2 ^ 2 ^ v) = tnd n c v := by
  have h16 := pow4 h4
  apply Nat.eq_of_testBit_eq
  intro k
  unfold tnd
  rw [bits_test, Nat.testBit_or, Nat.testBit_div_two_pow, Nat.testBit_mul_two_pow, Nat.testBit_and, Nat.testBit_and]
  by_cases hk : k < 2 ^ n
  · have F := tn_f v (by omega) k (by omega)
    have hp0 := Nat.two_pow_pos v
    have hp : 2 ^ v ≤ 8 := by
      have : 2 ^ v ≤ 2 ^ 3 := Nat.pow_le_pow_right (by omega) (by omega)
      omega
    cases hb : k.testBit v
    · obtain ⟨a1, a2, a3, a4⟩ := F.2 hb
      rw [a4]
      rw [wW_t v (by omega) (k + 2 ^ v) (by omega), a1]
      by_cases q : 2 ^ v ≤ k
      · rw [wN_t v (by omega) (k - 2 ^ v) (by omega), a3 q]
        simp [hk, show k + 2 ^ v < 16 from a2, show k - 2 ^ v < 16 by omega]
      · simp [hk, q, show k + 2 ^ v < 16 from a2]
    · obtain ⟨a1, a2, a3, a4⟩ := F.1 hb
      rw [a4]
      rw [wW_t v (by omega) (k + 2 ^ v) (by omega), a3, wN_t v (by omega) (k - 2 ^ v) (by omega), a2]
      simp [hk, a1]
  · have z1 : c.testBit (k + 2 ^ v) = false := tb_hi hc (Nat.le_trans (show 2 ^ n ≤ k by omega) (Nat.le_add_right _ _))
    rw [z1]
    simp only [hk, decide_false, Bool.false_and, Bool.false_or]
    by_cases q : 2 ^ v ≤ k
    · by_cases q2 : k - 2 ^ v < 2 ^ n
      · have hb : (k - 2 ^ v).testBit v = true := by
          cases z : (k - 2 ^ v).testBit v
          · have := tn_g n (by omega) v hv _ q2 z
            omega
          · rfl
        rw [wN_t v (by omega) (k - 2 ^ v) (by omega), hb]
        simp [show k - 2 ^ v < 16 by omega]
      · rw [tb_hi hc (by omega)]
        simp
    · simp [q]
theorem pow2v {v : Nat} (h : v < 4) : 2 ^ v < 16 := by
  have : 2 ^ v ≤ 2 ^ 3 := Nat.pow_le_pow_right (by omega) (by omega)
  omega
theorem mulb {a v : Nat} (ha : a < 65536) (hv : v < 4) : a * 2 ^ 2 ^ v < 2 ^ 32 := by
  have h1 : 2 ^ 2 ^ v ≤ 2 ^ 8 := Nat.pow_le_pow_right (by omega) (by
    have : 2 ^ v ≤ 2 ^ 3 := Nat.pow_le_pow_right (by omega) (by omega)
    omega)
  have h2 : a * 2 ^ 2 ^ v ≤ a * 2 ^ 8 := Nat.mul_le_mul_left a h1
  omega
theorem tnd_i {n c v : Nat} (h4 : n ≤ 4) (hc : c < 2 ^ 2 ^ n) (hv : v < n) : ((nI c &&& wv v) >>> (nI (2 ^ v) &&& 31)) ||| ((nI c &&& (wv v ^^^ (-1))) <<< (nI (2 ^ v) &&& 31)) = nI (tnd n c v) := by
  have h65 := p65 h4
  have hp := pow2v (show v < 4 by omega)
  have hl : c &&& wW v ≤ c := Nat.and_le_left
  have hl2 : c &&& (wW v ^^^ (2 ^ 32 - 1)) ≤ c := Nat.and_le_left
  rw [wv_eq, show (-1 : Int32) = nI (2 ^ 32 - 1) from rfl, fb_xorI, fa_and, fa_and, sh_r (by omega) (by omega), sh_l (by omega) (mulb (by omega) (by omega)), fa_or, tnd_k h4 hc hv]
theorem tnd_lt (n c v : Nat) : tnd n c v < 2 ^ 2 ^ n := bits_lt _ _
theorem dlN_lt (n c : Nat) : dlN n c < 2 ^ 2 ^ n := bits_lt _ _
theorem chN_lt (n c i j : Nat) : chN n c i j < 2 ^ 2 ^ n := bits_lt _ _
theorem opN_lt (n c : Nat) : opN n c < 2 ^ 2 ^ n := bits_lt _ _
theorem opN_k {n c : Nat} (hc : c < 2 ^ 2 ^ n) : c ^^^ (2 ^ 2 ^ n - 1) = opN n c := by
  apply bits_ext (N := 2 ^ n)
  · exact Nat.xor_lt_two_pow hc (by have := Nat.two_pow_pos (2 ^ n); omega)
  · exact opN_lt n c
  · intro k hk
    unfold opN
    rw [bits_test, Nat.testBit_xor, Nat.testBit_two_pow_sub_one]
    simp [hk]
/-- the first v voters turned over -/
def tvN (n c v : Nat) : Nat := bits (2 ^ n) (fun k => c.testBit (k ^^^ (2 ^ v - 1)))
theorem tv_f : ∀ v, v < 4 → 2 ^ v ^^^ (2 ^ v - 1) = 2 ^ (v + 1) - 1 := by decide +kernel
theorem tvN_0 {n c : Nat} (hc : c < 2 ^ 2 ^ n) : tvN n c 0 = c := by
  unfold tvN
  simp only [Nat.pow_zero, Nat.sub_self, Nat.xor_zero]
  exact bits_self hc
theorem tvN_s {n c v : Nat} (h4 : n ≤ 4) (hv : v < n) : tnd n (tvN n c v) v = tvN n c (v + 1) := by
  unfold tnd
  refine bits_congr (fun k hk => ?_)
  unfold tvN
  have hx : k ^^^ 2 ^ v < 2 ^ n := Nat.xor_lt_two_pow hk (Nat.pow_lt_pow_right (by omega) hv)
  rw [bits_test, decide_eq_true hx, Bool.true_and, Nat.xor_assoc, tv_f v (by omega)]
theorem dl_f : ∀ n, n < 5 → ∀ k, k < 2 ^ n → k ^^^ (2 ^ n - 1) = 2 ^ n - 1 - k := by decide +kernel
theorem tvN_n {n c : Nat} (h4 : n ≤ 4) : opN n (tvN n c n) = dlN n c := by
  unfold opN dlN
  refine bits_congr (fun k hk => ?_)
  unfold tvN
  rw [bits_test, decide_eq_true hk, Bool.true_and, dl_f n (by omega) k hk]
def lA (i j q : Nat) : Bool := (wW i).testBit q && (wW j ^^^ (2 ^ 32 - 1)).testBit q
def chF (i j k : Nat) : Bool := if lA i j k then decide (swp i j k = k + (2 ^ j - 2 ^ i)) && lA j i (k + (2 ^ j - 2 ^ i)) && (!decide (2 ^ j - 2 ^ i ≤ k) || !lA i j (k - (2 ^ j - 2 ^ i))) && !lA j i k else if lA j i k then decide (2 ^ j - 2 ^ i ≤ k) && decide (swp i j k = k - (2 ^ j - 2 ^ i)) && lA i j (k - (2 ^ j - 2 ^ i)) && !lA j i (k + (2 ^ j - 2 ^ i)) else decide (swp i j k = k) && (!decide (2 ^ j - 2 ^ i ≤ k) || !lA i j (k - (2 ^ j - 2 ^ i))) && !lA j i (k + (2 ^ j - 2 ^ i))
theorem chF_all : ∀ i, i < 4 → ∀ j, j < 4 → i < j → ∀ k, k < 16 → chF i j k = true := by decide +kernel
theorem swp_c (i j k : Nat) : swp i j k = swp j i k := by
  unfold swp
  rw [Bool.xor_comm, Nat.or_comm]
theorem chN_c (n c i j : Nat) : chN n c i j = chN n c j i := by
  unfold chN
  exact bits_congr (fun k _ => by rw [swp_c])
def lAb (n i j k : Nat) : Bool := !lA i j k || decide (k + (2 ^ j - 2 ^ i) < 2 ^ n)
theorem lAb_all : ∀ n, n < 5 → ∀ i, i < n → ∀ j, j < n → i < j → ∀ k, k < 2 ^ n → lAb n i j k = true := by decide +kernel
theorem lA_lt {n i j k : Nat} (hn : n < 5) (hi : i < n) (hj : j < n) (hij : i < j) (hk : k < 2 ^ n) (h : lA i j k = true) : k + (2 ^ j - 2 ^ i) < 2 ^ n := by
  have q := lAb_all n hn i hi j hj hij k hk
  unfold lAb at q
  rw [h] at q
  simpa using q
theorem chN_k {n c i j : Nat} (h4 : n ≤ 4) (hc : c < 2 ^ 2 ^ n) (hi : i < n) (hj : j < n) (hij : i < j) :
    ((c &&& (((wW i &&& (wW j ^^^ (2 ^ 32 - 1))) ||| (wW j &&& (wW i ^^^ (2 ^ 32 - 1)))) ^^^ (2 ^ 32 - 1))) ||| ((c &&& (wW i &&& (wW j ^^^ (2 ^ 32 - 1)))) * 2 ^ (2 ^ j - 2 ^ i))) ||| ((c &&& (wW j &&& (wW i ^^^ (2 ^ 32 - 1)))) / 2 ^ (2 ^ j - 2 ^ i)) = chN n c i j := by
  have h16 := pow4 h4
  have e1 : ∀ q, (wW i &&& (wW j ^^^ (2 ^ 32 - 1))).testBit q = lA i j q := fun q => by rw [Nat.testBit_and]; rfl
  have e2 : ∀ q, (wW j &&& (wW i ^^^ (2 ^ 32 - 1))).testBit q = lA j i q := fun q => by rw [Nat.testBit_and]; rfl
  generalize wW i &&& (wW j ^^^ (2 ^ 32 - 1)) = x at e1 ⊢
  generalize wW j &&& (wW i ^^^ (2 ^ 32 - 1)) = y at e2 ⊢
  apply Nat.eq_of_testBit_eq
  intro k
  unfold chN
  rw [bits_test, Nat.testBit_or, Nat.testBit_or, Nat.testBit_and, Nat.testBit_mul_two_pow, Nat.testBit_div_two_pow, Nat.testBit_and, Nat.testBit_and, Nat.testBit_xor, Nat.testBit_or, Nat.testBit_two_pow_sub_one, e1, e2, e1, e2]
  generalize hs : 2 ^ j - 2 ^ i = s
  by_cases hk : k < 2 ^ n
  · have F := chF_all i (by omega) j (by omega) hij k (by omega)
    unfold chF at F
    rw [hs] at F
    rw [decide_eq_true (show k < 32 by omega), decide_eq_true hk, Bool.true_and]
    cases hl : lA i j k
    · rw [if_neg (by rw [hl]; decide)] at F
      cases hh : lA j i k
      · rw [if_neg (by rw [hh]; decide)] at F
        simp only [Bool.and_eq_true, decide_eq_true_eq, Bool.or_eq_true, Bool.not_eq_true', decide_eq_false_iff_not] at F
        obtain ⟨⟨a1, a2⟩, a3⟩ := F
        rw [a1, a3]
        by_cases q : s ≤ k
        · rw [a2.elim (fun z => absurd q z) id]; simp
        · simp [q]
      · rw [if_pos hh] at F
        simp only [Bool.and_eq_true, decide_eq_true_eq, Bool.or_eq_true, Bool.not_eq_true', decide_eq_false_iff_not] at F
        obtain ⟨⟨⟨a1, a2⟩, a3⟩, a4⟩ := F
        rw [a2, a3, a4]
        simp [a1]
    · rw [if_pos hl] at F
      simp only [Bool.and_eq_true, decide_eq_true_eq, Bool.or_eq_true, Bool.not_eq_true', decide_eq_false_iff_not] at F
      obtain ⟨⟨⟨a1, a2⟩, a3⟩, a4⟩ := F
      rw [a1, a2, a4]
      by_cases q : s ≤ k
      · rw [a3.elim (fun z => absurd q z) id]; simp
      · simp [q]
  · rw [tb_hi hc (show 2 ^ n ≤ k by omega), tb_hi hc (show 2 ^ n ≤ k + s from Nat.le_trans (show 2 ^ n ≤ k by omega) (Nat.le_add_right _ _))]
    simp only [hk, decide_false, Bool.false_and, Bool.false_or, Bool.or_false]
    by_cases q : s ≤ k
    · by_cases q2 : k - s < 2 ^ n
      · have hb : lA i j (k - s) = false := by
          cases z : lA i j (k - s)
          · rfl
          · have := lA_lt (show n < 5 by omega) hi hj hij q2 z
            rw [hs] at this
            omega
        rw [hb]; simp
      · rw [tb_hi hc (by omega)]; simp
    · simp [q]
theorem mulc {a i j : Nat} (ha : a < 65536) (hj : j < 4) : a * 2 ^ (2 ^ j - 2 ^ i) < 2 ^ 32 := by
  have h0 : 2 ^ j ≤ 2 ^ 3 := Nat.pow_le_pow_right (by omega) (by omega)
  have h1 : 2 ^ (2 ^ j - 2 ^ i) ≤ 2 ^ 8 := Nat.pow_le_pow_right (by omega) (Nat.le_trans (Nat.sub_le _ _) h0)
  have h2 := Nat.mul_le_mul_left a h1
  omega
theorem chN_i {n c i j : Nat} (h4 : n ≤ 4) (hc : c < 2 ^ 2 ^ n) (hi : i < n) (hj : j < n) (hij : i < j) :
    ((nI c &&& (((wv i &&& (wv j ^^^ (-1))) ||| (wv j &&& (wv i ^^^ (-1)))) ^^^ (-1))) ||| ((nI c &&& (wv i &&& (wv j ^^^ (-1)))) <<< (nI (2 ^ j - 2 ^ i) &&& 31))) ||| ((nI c &&& (wv j &&& (wv i ^^^ (-1)))) >>> (nI (2 ^ j - 2 ^ i) &&& 31)) = nI (chN n c i j) := by
  have h65 := p65 h4
  have hp := pow2v (show j < 4 by omega)
  have hp2 : 2 ^ j - 2 ^ i < 32 := Nat.lt_of_le_of_lt (Nat.sub_le _ _) (by omega)
  rw [wv_eq, wv_eq, show (-1 : Int32) = nI (2 ^ 32 - 1) from rfl]
  simp only [fb_xorI, fa_and, fa_or]
  have hl : c &&& (wW i &&& (wW j ^^^ (2 ^ 32 - 1))) ≤ c := Nat.and_le_left
  have hl2 : c &&& (wW j &&& (wW i ^^^ (2 ^ 32 - 1))) ≤ c := Nat.and_le_left
  rw [sh_r (by omega) hp2, sh_l hp2 (mulc (by omega) (by omega)), fa_or, fa_or, chN_k h4 hc hi hj hij]
set_option maxRecDepth 100000 in
set_option maxHeartbeats 4000000 in
theorem c_J9_min_7cf53 {g : GC} {d : Nat} {M : MI} {L : ML} {x y : Int32} : CfI g (d) yJ9_min_7cf53 cJ9_min_7cf53 2 .int [.int x, .int y] M L (if y < x then y else x) (M) (L) := by
  refine cfI_ofF (own := RJ9) (l := [some (.int x), some (.int y)]) 0 rfl (by decide +kernel) rfl (Nat.le_of_ble_eq_true rfl) ?_
  refine tm_iload_0 1 rfl dJ9_min_7cf53_0 ?_
  refine tm_iload_1 2 rfl dJ9_min_7cf53_1 ?_
  refine tm_icmp_gt 9 5 rfl rfl dJ9_min_7cf53_2 (fun h2 => ?_) (fun h2 => ?_)
  · refine tm_iload_1 10 rfl dJ9_min_7cf53_9 ?_
    exact tm_iret (by first | exact (if_pos h2).symm | exact (if_neg h2).symm) rfl rfl dJ9_min_7cf53_10
  · refine tm_iload_0 6 rfl dJ9_min_7cf53_5 ?_
    refine tm_goto 10 rfl dJ9_min_7cf53_6 ?_
    exact tm_iret (by first | exact (if_pos h2).symm | exact (if_neg h2).symm) rfl rfl dJ9_min_7cf53_10

set_option maxRecDepth 100000 in
set_option maxHeartbeats 4000000 in
theorem c_J9_max_7cf53 {g : GC} {d : Nat} {M : MI} {L : ML} {x y : Int32} : CfI g (d) yJ9_max_7cf53 cJ9_max_7cf53 2 .int [.int x, .int y] M L (if x < y then y else x) (M) (L) := by
  refine cfI_ofF (own := RJ9) (l := [some (.int x), some (.int y)]) 0 rfl (by decide +kernel) rfl (Nat.le_of_ble_eq_true rfl) ?_
  refine tm_iload_0 1 rfl dJ9_max_7cf53_0 ?_
  refine tm_iload_1 2 rfl dJ9_max_7cf53_1 ?_
  refine tm_icmp_lt 9 5 rfl rfl dJ9_max_7cf53_2 (fun h2 => ?_) (fun h2 => ?_)
  · refine tm_iload_1 10 rfl dJ9_max_7cf53_9 ?_
    exact tm_iret (by first | exact (if_pos h2).symm | exact (if_neg h2).symm) rfl rfl dJ9_max_7cf53_10
  · refine tm_iload_0 6 rfl dJ9_max_7cf53_5 ?_
    refine tm_goto 10 rfl dJ9_max_7cf53_6 ?_
    exact tm_iret (by first | exact (if_pos h2).symm | exact (if_neg h2).symm) rfl rfl dJ9_max_7cf53_10

set_option maxRecDepth 100000 in
set_option maxHeartbeats 4000000 in
theorem c_J9_abs_0f7a4 {g : GC} {d : Nat} {M : MI} {L : ML} {x : Int32} : CfI g (d) yJ9_abs_0f7a4 cJ9_abs_0f7a4 1 .int [.int x] M L (if 0 ≤ x then x else -x) (M) (L) := by
  refine cfI_ofF (own := RJ9) (l := [some (.int x)]) 0 rfl (by decide +kernel) rfl (Nat.le_of_ble_eq_true rfl) ?_
  refine tm_iload_0 1 rfl dJ9_abs_0f7a4_0 ?_
  refine tm_if_ge 9 4 rfl rfl dJ9_abs_0f7a4_1 (fun h1 => ?_) (fun h1 => ?_)
  · refine tm_iload_0 10 rfl dJ9_abs_0f7a4_9 ?_
    exact tm_iret (by first | exact (if_pos h1).symm | exact (if_neg h1).symm) rfl rfl dJ9_abs_0f7a4_10
  · refine tm_iload_0 5 rfl dJ9_abs_0f7a4_4 ?_
    refine tm_ineg 6 rfl dJ9_abs_0f7a4_5 ?_
    refine tm_goto 10 rfl dJ9_abs_0f7a4_6 ?_
    exact tm_iret (by first | exact (if_pos h1).symm | exact (if_neg h1).symm) rfl rfl dJ9_abs_0f7a4_10

set_option maxRecDepth 100000 in
set_option maxHeartbeats 4000000 in
theorem c_X0_says {g : GC} {d : Nat} {M : MI} {L : ML} {c k : Nat} (hc : c < 2 ^ 31) (hk : k < 32) : CfI g (d) yX0_says cX0_says 2 .int [.int (nI c), .int (nI k)] M L (bI (c.testBit k)) (M) (L) := by
  refine cfI_of (own := RX0) (l := [some (.int (nI c)), some (.int (nI k))]) 0 rfl rfl rfl (Nat.le_of_ble_eq_true rfl) ?_
  refine tm_iload_0 1 rfl dX0_says_0 ?_
  refine tm_iload_1 2 rfl dX0_says_1 ?_
  refine tm_ishr 3 rfl dX0_says_2 ?_
  refine tm_iconst (1) rfl 4 rfl dX0_says_3 ?_
  refine tm_iand 5 rfl dX0_says_4 ?_
  exact tm_iret (bit_1 hc hk) rfl rfl dX0_says_5

set_option maxRecDepth 100000 in
set_option maxHeartbeats 4000000 in
theorem c_X0_flipped {g : GC} {d : Nat} {M : MI} {L : ML} {c k : Nat} (hk : k < 31) : CfI g (d) yX0_flipped cX0_flipped 2 .int [.int (nI c), .int (nI k)] M L (nI (c ^^^ 2 ^ k)) (M) (L) := by
  refine cfI_of (own := RX0) (l := [some (.int (nI c)), some (.int (nI k))]) 0 rfl rfl rfl (Nat.le_of_ble_eq_true rfl) ?_
  refine tm_iload_0 1 rfl dX0_flipped_0 ?_
  refine tm_iconst (1) rfl 2 rfl dX0_flipped_1 ?_
  refine tm_iload_1 3 rfl dX0_flipped_2 ?_
  refine tm_ishl 4 rfl dX0_flipped_3 ?_
  refine tm_ixor 5 rfl dX0_flipped_4 ?_
  exact tm_iret (by rw [sh_1 k hk, fb_xorI]) rfl rfl dX0_flipped_5

set_option maxRecDepth 100000 in
set_option maxHeartbeats 4000000 in
theorem c_X0_allYes {g : GC} {d : Nat} {M : MI} {L : ML} {n : Nat} (h4 : n ≤ 4) : CfI g (d) yX0_allYes cX0_allYes 1 .int [.int (nI n)] M L (nI (2 ^ 2 ^ n - 1)) (M) (L) := by
  have h16 := pow4 h4
  refine cfI_of (own := RX0) (l := [some (.int (nI n))]) 0 rfl rfl rfl (Nat.le_of_ble_eq_true rfl) ?_
  refine tm_iconst (1) rfl 1 rfl dX0_allYes_0 ?_
  refine tm_iconst (1) rfl 2 rfl dX0_allYes_1 ?_
  refine tm_iload_0 3 rfl dX0_allYes_2 ?_
  refine tm_ishl 4 rfl dX0_allYes_3 ?_
  refine tm_ishl 5 rfl dX0_allYes_4 ?_
  refine tm_iconst (1) rfl 6 rfl dX0_allYes_5 ?_
  refine tm_isub 7 rfl dX0_allYes_6 ?_
  exact tm_iret (by rw [sh_1 n (by omega), sh_1 _ (by omega), nI_m1 (Nat.two_pow_pos _)]) rfl rfl dX0_allYes_7

set_option maxRecDepth 100000 in
set_option maxHeartbeats 4000000 in
theorem c_X0_opposite {g : GC} {d : Nat} {M : MI} {L : ML} {n c : Nat} (h4 : n ≤ 4) (hc : c < 2 ^ 2 ^ n) : CfI g (d + 1) yX0_opposite cX0_opposite 2 .int [.int (nI n), .int (nI c)] M L (nI (opN n c)) (M) (L) := by
  refine cfI_of (own := RX0) (l := [some (.int (nI n)), some (.int (nI c))]) 0 rfl rfl rfl (Nat.le_of_ble_eq_true rfl) ?_
  refine tm_iload_1 1 rfl dX0_opposite_0 ?_
  refine tm_iload_0 2 rfl dX0_opposite_1 ?_
  refine tm_callS_I (c_X0_allYes h4) ms_X0_allYes ml_X0_13 rfl rfl (Nat.le_of_ble_eq_true rfl) 5 rfl dX0_opposite_2 ?_
  refine tm_ixor 6 rfl dX0_opposite_5 ?_
  exact tm_iret (by rw [fb_xorI, opN_k hc]) rfl rfl dX0_opposite_6

set_option maxRecDepth 100000 in
set_option maxHeartbeats 4000000 in
theorem c_X0_turned {g : GC} {d : Nat} {M : MI} {L : ML} {n c v : Nat} (h4 : n ≤ 4) (hc : c < 2 ^ 2 ^ n) (hv : v < n) : CfI g (d) yX0_turned cX0_turned 3 .int [.int (nI c), .int (nI v)] M L (nI (tnd n c v)) (M) (L) := by
  refine cfI_of (own := RX0) (l := [some (.int (nI c)), some (.int (nI v)), none]) 1 rfl rfl rfl (Nat.le_of_ble_eq_true rfl) ?_
  refine tm_iconst (1) rfl 1 rfl dX0_turned_0 ?_
  refine tm_iload_1 2 rfl dX0_turned_1 ?_
  refine tm_ishl 3 rfl dX0_turned_2 ?_
  rw [sh_1 v (by omega)]
  refine tm_istore_2 (by decide) rfl 4 rfl dX0_turned_3 ?_
  refine tm_iload_0 5 rfl dX0_turned_4 ?_
  refine tm_with wl_X0_7 8 rfl dX0_turned_5 ?_
  refine tm_iload_1 9 rfl dX0_turned_8 ?_
  refine tm_withAt (ix := v) (ix_nI (by omega) (by decide)) 10 rfl dX0_turned_9 ?_
  refine tm_iand 11 rfl dX0_turned_10 ?_
  refine tm_iload_2 12 rfl dX0_turned_11 ?_
  refine tm_ishr 13 rfl dX0_turned_12 ?_
  refine tm_iload_0 14 rfl dX0_turned_13 ?_
  refine tm_with wl_X0_7 17 rfl dX0_turned_14 ?_
  refine tm_iload_1 18 rfl dX0_turned_17 ?_
  refine tm_withAt (ix := v) (ix_nI (by omega) (by decide)) 19 rfl dX0_turned_18 ?_
  refine tm_iconst (-1) rfl 20 rfl dX0_turned_19 ?_
  refine tm_ixor 21 rfl dX0_turned_20 ?_
  refine tm_iand 22 rfl dX0_turned_21 ?_
  refine tm_iload_2 23 rfl dX0_turned_22 ?_
  refine tm_ishl 24 rfl dX0_turned_23 ?_
  refine tm_ior 25 rfl dX0_turned_24 ?_
  exact tm_iret (tnd_i h4 hc hv) rfl rfl dX0_turned_25

set_option maxRecDepth 100000 in
set_option maxHeartbeats 4000000 in
theorem c_X0_with {g : GC} {d : Nat} {M : MI} {L : ML} {v : Nat} (hv : v < 4) : CfI g (d) yX0_with cX0_with 1 .int [.int (nI v)] M L (nI (wW v)) (M) (L) := by
  refine cfI_of (own := RX0) (l := [some (.int (nI v))]) 0 rfl rfl rfl (Nat.le_of_ble_eq_true rfl) ?_
  refine tm_with wl_X0_7 3 rfl dX0_with_0 ?_
  refine tm_iload_0 4 rfl dX0_with_3 ?_
  refine tm_withAt (ix := v) (ix_nI hv (by decide)) 5 rfl dX0_with_4 ?_
  exact tm_iret rfl rfl rfl dX0_with_5

set_option maxRecDepth 100000 in
set_option maxHeartbeats 4000000 in
theorem c_X0_dual {g : GC} {d : Nat} {M : MI} {L : ML} {n c : Nat} (h4 : n ≤ 4) (hc : c < 2 ^ 2 ^ n) : CfI g (d + 2) yX0_dual cX0_dual 4 .int [.int (nI n), .int (nI c)] M L (nI (dlN n c)) (M) (L) := by
  refine cfI_of (own := RX0) (l := [some (.int (nI n)), some (.int (nI c)), none, none]) 2 rfl rfl rfl (Nat.le_of_ble_eq_true rfl) ?_
  refine tm_iload_1 1 rfl dX0_dual_0 ?_
  refine tm_istore_2 (by decide) rfl 2 rfl dX0_dual_1 ?_
  refine tm_iconst (0) rfl 3 rfl dX0_dual_2 ?_
  refine tm_istore_3 (by decide) rfl 4 rfl dX0_dual_3 ?_
  refine tm_eq rfl (show [some (.int (nI n)), some (.int (nI c)), some (.int (nI (tvN n c 0))), some (.int (nI 0))] = _ by rw [tvN_0 hc]; rfl) rfl rfl rfl ?_
  refine tm_loop (N := n) (fun v => Tm g (d + 2) RX0 cX0_dual 4 (some .int) (QI g (nI (dlN n c)) (M) (L)) 4 [some (.int (nI n)), some (.int (nI c)), some (.int (nI (tvN n c v))), some (.int (nI v))] [] (M) (L)) (fun v hv ih => ?_) ?_
  · skip
    refine tm_iload_3 5 rfl dX0_dual_4 ?_
    refine tm_iload_0 6 rfl dX0_dual_5 ?_
    refine tm_icmp_ge_f 9 (nI_ge hv (by omega)) rfl rfl dX0_dual_6 ?_
    refine tm_iload_2 10 rfl dX0_dual_9 ?_
    refine tm_iload_3 11 rfl dX0_dual_10 ?_
    refine tm_callS_I (c_X0_turned (c := tvN n c v) h4 (bits_lt _ _) hv) ms_X0_turned ml_X0_17 rfl rfl (Nat.le_of_ble_eq_true rfl) 14 rfl dX0_dual_11 ?_
    rw [tvN_s h4 hv]
    refine tm_istore_2 (by decide) rfl 15 rfl dX0_dual_14 ?_
    refine tm_iinc_3 (nI (v + 1)) (iinc1 v) (by decide) rfl 18 rfl dX0_dual_15 ?_
    refine tm_goto 4 rfl dX0_dual_18 ?_
    exact ih
  · skip
    refine tm_iload_3 5 rfl dX0_dual_4 ?_
    refine tm_iload_0 6 rfl dX0_dual_5 ?_
    refine tm_icmp_ge_t 21 (nI_le (Nat.le_refl _) (by omega)) rfl dX0_dual_6 ?_
    refine tm_iload_0 22 rfl dX0_dual_21 ?_
    refine tm_iload_2 23 rfl dX0_dual_22 ?_
    refine tm_callS_I (c_X0_opposite (c := tvN n c n) h4 (bits_lt _ _)) ms_X0_opposite ml_X0_21 rfl rfl (Nat.le_of_ble_eq_true rfl) 26 rfl dX0_dual_23 ?_
    exact tm_iret (by rw [tvN_n h4]) rfl rfl dX0_dual_26

theorem mm_1 {i j : Nat} (hi : i < 4) (hj : j < 4) (h : ¬ i = j) : ∃ a b, a < b ∧ ((a = i ∧ b = j) ∨ (a = j ∧ b = i)) ∧ (if nI j < nI i then nI j else nI i) = nI a ∧ (if nI i < nI j then nI j else nI i) = nI b := by
  rcases Nat.lt_or_ge i j with q | q
  · exact ⟨i, j, q, Or.inl ⟨rfl, rfl⟩, if_neg (nI_nlt (by omega) (by omega)), if_pos (nI_lt q (by omega))⟩
  · exact ⟨j, i, by omega, Or.inr ⟨rfl, rfl⟩, if_pos (nI_lt (by omega) (by omega)), if_neg (nI_nlt (by omega) (by omega))⟩
theorem ch_sym {n c a b i j : Nat} (h : (a = i ∧ b = j) ∨ (a = j ∧ b = i)) : chN n c a b = chN n c i j := by
  rcases h with ⟨rfl, rfl⟩ | ⟨rfl, rfl⟩
  · rfl
  · exact chN_c _ _ _ _
theorem pw_le {a b : Nat} (h : a < b) : 2 ^ a ≤ 2 ^ b := Nat.pow_le_pow_right (by omega) (by omega)
set_option maxRecDepth 100000 in
set_option maxHeartbeats 4000000 in
theorem c_X0_changedAbout {g : GC} {d : Nat} {M : MI} {L : ML} {n c i j : Nat} (h4 : n ≤ 4) (hc : c < 2 ^ 2 ^ n) (hi : i < n) (hj : j < n) (hij : ¬ i = j) : CfI g (d + 1) yX0_changedAbout cX0_changedAbout 8 .int [.int (nI c), .int (nI i), .int (nI j)] M L (nI (chN n c i j)) (M) (L) := by
  obtain ⟨a, b, hab, hs, e1, e2⟩ := mm_1 (show i < 4 by omega) (show j < 4 by omega) hij
  have ha : a < n := by omega
  have hb : b < n := by omega
  refine cfI_of (own := RX0) (l := [some (.int (nI c)), some (.int (nI i)), some (.int (nI j)), none, none, none, none, none]) 5 rfl rfl rfl (Nat.le_of_ble_eq_true rfl) ?_
  refine tm_iload_1 1 rfl dX0_changedAbout_0 ?_
  refine tm_iload_2 2 rfl dX0_changedAbout_1 ?_
  refine tm_callS_I (c_J9_min_7cf53) ms_J9_min_7cf53 ml_X0_24 rfl rfl (Nat.le_of_ble_eq_true rfl) 5 rfl dX0_changedAbout_2 ?_
  rw [e1]
  refine tm_istore_3 (by decide) rfl 6 rfl dX0_changedAbout_5 ?_
  refine tm_iload_1 7 rfl dX0_changedAbout_6 ?_
  refine tm_iload_2 8 rfl dX0_changedAbout_7 ?_
  refine tm_callS_I (c_J9_max_7cf53) ms_J9_max_7cf53 ml_X0_29 rfl rfl (Nat.le_of_ble_eq_true rfl) 11 rfl dX0_changedAbout_8 ?_
  rw [e2]
  refine tm_istore_4 (by decide) rfl 13 rfl dX0_changedAbout_11 ?_
  refine tm_with wl_X0_7 16 rfl dX0_changedAbout_13 ?_
  refine tm_iload_3 17 rfl dX0_changedAbout_16 ?_
  refine tm_withAt (ix := a) (ix_nI (by omega) (by decide)) 18 rfl dX0_changedAbout_17 ?_
  refine tm_with wl_X0_7 21 rfl dX0_changedAbout_18 ?_
  refine tm_iload_4 23 rfl dX0_changedAbout_21 ?_
  refine tm_withAt (ix := b) (ix_nI (by omega) (by decide)) 24 rfl dX0_changedAbout_23 ?_
  refine tm_iconst (-1) rfl 25 rfl dX0_changedAbout_24 ?_
  refine tm_ixor 26 rfl dX0_changedAbout_25 ?_
  refine tm_iand 27 rfl dX0_changedAbout_26 ?_
  refine tm_istore_5 (by decide) rfl 29 rfl dX0_changedAbout_27 ?_
  refine tm_with wl_X0_7 32 rfl dX0_changedAbout_29 ?_
  refine tm_iload_4 34 rfl dX0_changedAbout_32 ?_
  refine tm_withAt (ix := b) (ix_nI (by omega) (by decide)) 35 rfl dX0_changedAbout_34 ?_
  refine tm_with wl_X0_7 38 rfl dX0_changedAbout_35 ?_
  refine tm_iload_3 39 rfl dX0_changedAbout_38 ?_
  refine tm_withAt (ix := a) (ix_nI (by omega) (by decide)) 40 rfl dX0_changedAbout_39 ?_
  refine tm_iconst (-1) rfl 41 rfl dX0_changedAbout_40 ?_
  refine tm_ixor 42 rfl dX0_changedAbout_41 ?_
  refine tm_iand 43 rfl dX0_changedAbout_42 ?_
  refine tm_istore_6 (by decide) rfl 45 rfl dX0_changedAbout_43 ?_
  refine tm_iconst (1) rfl 46 rfl dX0_changedAbout_45 ?_
  refine tm_iload_4 48 rfl dX0_changedAbout_46 ?_
  refine tm_ishl 49 rfl dX0_changedAbout_48 ?_
  rw [sh_1 b (by omega)]
  refine tm_iconst (1) rfl 50 rfl dX0_changedAbout_49 ?_
  refine tm_iload_3 51 rfl dX0_changedAbout_50 ?_
  refine tm_ishl 52 rfl dX0_changedAbout_51 ?_
  rw [sh_1 a (by omega)]
  refine tm_isub 53 rfl dX0_changedAbout_52 ?_
  rw [pk_sub (pw_le hab)]
  refine tm_istore_7 (by decide) rfl 55 rfl dX0_changedAbout_53 ?_
  refine tm_iload_0 56 rfl dX0_changedAbout_55 ?_
  refine tm_iload_5 58 rfl dX0_changedAbout_56 ?_
  refine tm_iload_6 60 rfl dX0_changedAbout_58 ?_
  refine tm_ior 61 rfl dX0_changedAbout_60 ?_
  refine tm_iconst (-1) rfl 62 rfl dX0_changedAbout_61 ?_
  refine tm_ixor 63 rfl dX0_changedAbout_62 ?_
  refine tm_iand 64 rfl dX0_changedAbout_63 ?_
  refine tm_iload_0 65 rfl dX0_changedAbout_64 ?_
  refine tm_iload_5 67 rfl dX0_changedAbout_65 ?_
  refine tm_iand 68 rfl dX0_changedAbout_67 ?_
  refine tm_iload_7 70 rfl dX0_changedAbout_68 ?_
  refine tm_ishl 71 rfl dX0_changedAbout_70 ?_
  refine tm_ior 72 rfl dX0_changedAbout_71 ?_
  refine tm_iload_0 73 rfl dX0_changedAbout_72 ?_
  refine tm_iload_6 75 rfl dX0_changedAbout_73 ?_
  refine tm_iand 76 rfl dX0_changedAbout_75 ?_
  refine tm_iload_7 78 rfl dX0_changedAbout_76 ?_
  refine tm_ishr 79 rfl dX0_changedAbout_78 ?_
  refine tm_ior 80 rfl dX0_changedAbout_79 ?_
  exact tm_iret (by rw [← ch_sym hs]; exact chN_i h4 hc ha hb hab) rfl rfl dX0_changedAbout_80


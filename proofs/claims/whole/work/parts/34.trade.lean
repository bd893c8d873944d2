/-! trade -/
abbrev TS := Nat × (Nat → Int32)
def tdB (a b x y : Nat) : Bool := decide (a &&& b = x &&& y) && decide (a ^^^ b = x ^^^ y)
def trP (c a b x y : Nat) : Bool := c.testBit a && c.testBit b && !c.testBit x && !c.testBit y && tdB a b x y
def addT (s : TS) (a b x y : Nat) : TS := (s.1 + 1, if s.1 = 0 then upd (upd (upd (upd s.2 0 (nI a)) 1 (nI b)) 2 (nI x)) 3 (nI y) else s.2)
def stT (c a b x y : Nat) (s : TS) : TS := if trP c a b x y = true then addT s a b x y else s
def lY (c a b x : Nat) (s : TS) : Nat → TS
  | 0 => s
  | k + 1 => stT c a b x (x + k) (lY c a b x s k)
def lX (c N a b : Nat) (s : TS) : Nat → TS
  | 0 => s
  | k + 1 => lY c a b k (lX c N a b s k) (N - k)
def lB (c N a : Nat) (s : TS) : Nat → TS
  | 0 => s
  | k + 1 => lX c N a (a + k) (lB c N a s k) N
def lZ (c N : Nat) (s : TS) : Nat → TS
  | 0 => s
  | k + 1 => lB c N k (lZ c N s k) (N - k)
def ansTr (σ : AS) (r : Nat → Int32) (x : Int32) : Int32 := if inN x 5 = false then -1 else if x = 0 then nI (lZ σ.2.1 (2 ^ σ.1) (0, r) (2 ^ σ.1)).1 else if (lZ σ.2.1 (2 ^ σ.1) (0, r) (2 ^ σ.1)).1 = 0 then -5 else (lZ σ.2.1 (2 ^ σ.1) (0, r) (2 ^ σ.1)).2 (iN x - 1)
theorem tr_1 {σ : AS} {r : Nat → Int32} {x : Int32} (h : inN x 5 = false) : ansTr σ r x = -1 := if_pos h
theorem tr_2 {σ : AS} {r : Nat → Int32} {x : Int32} (h : inN x 5 = true) (h2 : x = 0) : ansTr σ r x = nI (lZ σ.2.1 (2 ^ σ.1) (0, r) (2 ^ σ.1)).1 := by unfold ansTr; rw [if_neg (by rw [h]; decide), if_pos h2]
theorem tr_3 {σ : AS} {r : Nat → Int32} {x : Int32} (h : inN x 5 = true) (h2 : ¬ x = 0) (h3 : (lZ σ.2.1 (2 ^ σ.1) (0, r) (2 ^ σ.1)).1 = 0) : ansTr σ r x = -5 := by unfold ansTr; rw [if_neg (by rw [h]; decide), if_neg h2, if_pos h3]
theorem tr_4 {σ : AS} {r : Nat → Int32} {x : Int32} (h : inN x 5 = true) (h2 : ¬ x = 0) (h3 : ¬ (lZ σ.2.1 (2 ^ σ.1) (0, r) (2 ^ σ.1)).1 = 0) : ansTr σ r x = (lZ σ.2.1 (2 ^ σ.1) (0, r) (2 ^ σ.1)).2 (iN x - 1) := by unfold ansTr; rw [if_neg (by rw [h]; decide), if_neg h2, if_neg h3]
theorem st_b (c a b x y : Nat) (s : TS) : (stT c a b x y s).1 ≤ s.1 + 1 := by
  unfold stT
  split
  · exact Nat.le_refl _
  · omega
theorem lY_b (c a b x : Nat) (s : TS) : ∀ k, (lY c a b x s k).1 ≤ s.1 + k
  | 0 => by show s.1 ≤ _; omega
  | k + 1 => by
    have h := lY_b c a b x s k
    have h2 := st_b c a b x (x + k) (lY c a b x s k)
    show (stT c a b x (x + k) (lY c a b x s k)).1 ≤ _
    omega
theorem lX_b (c : Nat) {N : Nat} (hN : N ≤ 16) (a b : Nat) (s : TS) : ∀ k, (lX c N a b s k).1 ≤ s.1 + 16 * k
  | 0 => by show s.1 ≤ _; omega
  | k + 1 => by
    have h := lX_b c hN a b s k
    have h2 := lY_b c a b k (lX c N a b s k) (N - k)
    show (lY c a b k (lX c N a b s k) (N - k)).1 ≤ _
    omega
theorem lB_b (c : Nat) {N : Nat} (hN : N ≤ 16) (a : Nat) (s : TS) : ∀ k, (lB c N a s k).1 ≤ s.1 + 256 * k
  | 0 => by show s.1 ≤ _; omega
  | k + 1 => by
    have h := lB_b c hN a s k
    have h2 := lX_b c hN a (a + k) (lB c N a s k) N
    show (lX c N a (a + k) (lB c N a s k) N).1 ≤ _
    omega
theorem lZ_b (c : Nat) {N : Nat} (hN : N ≤ 16) (s : TS) : ∀ k, (lZ c N s k).1 ≤ s.1 + 4096 * k
  | 0 => by show s.1 ≤ _; omega
  | k + 1 => by
    have h := lZ_b c hN s k
    have h2 := lB_b c hN k (lZ c N s k) (N - k)
    show (lB c N k (lZ c N s k) (N - k)).1 ≤ _
    omega
/-- once there is a first one it stays -/
def stay (s t : TS) : Prop := ¬ s.1 = 0 → ¬ t.1 = 0 ∧ t.2 = s.2
theorem stay_r (s : TS) : stay s s := fun h => ⟨h, rfl⟩
theorem stay_t {s t u : TS} (h : stay s t) (h2 : stay t u) : stay s u := fun q => ⟨(h2 (h q).1).1, ((h2 (h q).1).2).trans (h q).2⟩
theorem stay_st (c a b x y : Nat) (s : TS) : stay s (stT c a b x y s) := fun q => by
  unfold stT
  split
  · exact ⟨by show ¬ s.1 + 1 = 0; omega, if_neg q⟩
  · exact ⟨q, rfl⟩
theorem stay_n {S : Nat → TS} {N : Nat} (h : ∀ k, k < N → stay (S k) (S (k + 1))) : ∀ k m, k + m ≤ N → stay (S k) (S (k + m))
  | _, 0, _ => stay_r _
  | k, m + 1, hm => stay_t (stay_n h k m (by omega)) (h (k + m) (by omega))
theorem stay_le {S : Nat → TS} {N k : Nat} (h : ∀ k, k < N → stay (S k) (S (k + 1))) (hk : k ≤ N) : stay (S k) (S N) := by
  have := stay_n h k (N - k) (by omega)
  rwa [show k + (N - k) = N by omega] at this
theorem stay_Y (c a b x : Nat) (s : TS) {k N : Nat} (h : k ≤ N) : stay (lY c a b x s k) (lY c a b x s N) := stay_le (S := lY c a b x s) (fun k _ => stay_st c a b x (x + k) _) h
theorem stay_X (c N a b : Nat) (s : TS) {k K : Nat} (h : k ≤ K) : stay (lX c N a b s k) (lX c N a b s K) := stay_le (S := lX c N a b s) (fun k _ => stay_Y c a b k (lX c N a b s k) (Nat.zero_le (N - k))) h
theorem stay_B (c N a : Nat) (s : TS) {k K : Nat} (h : k ≤ K) : stay (lB c N a s k) (lB c N a s K) := stay_le (S := lB c N a s) (fun k _ => stay_X c N a (a + k) (lB c N a s k) (Nat.zero_le N)) h
theorem stay_Z (c N : Nat) (s : TS) {k K : Nat} (h : k ≤ K) : stay (lZ c N s k) (lZ c N s K) := stay_le (S := lZ c N s) (fun k _ => stay_B c N k (lZ c N s k) (Nat.zero_le (N - k))) h
theorem stay_all {c N a j k i : Nat} {s : TS} (ha : a < N) (hj : j < N - a) (hk : k < N) (hi : i < N - k) : stay (lY c a (a + j) k (lX c N a (a + j) (lB c N a (lZ c N s a) j) k) (i + 1)) (lZ c N s N) :=
  stay_t (stay_Y c a (a + j) k (lX c N a (a + j) (lB c N a (lZ c N s a) j) k) (show i + 1 ≤ N - k by omega)) (stay_t (stay_X c N a (a + j) (lB c N a (lZ c N s a) j) (show k + 1 ≤ N by omega)) (stay_t (stay_B c N a (lZ c N s a) (show j + 1 ≤ N - a by omega)) (stay_Z c N s (show a + 1 ≤ N by omega))))
theorem tr_found {c N a j k i : Nat} {s : TS} (ha : a < N) (hj : j < N - a) (hk : k < N) (hi : i < N - k) (h0 : (lY c a (a + j) k (lX c N a (a + j) (lB c N a (lZ c N s a) j) k) i).1 = 0) (ht : trP c a (a + j) k (k + i) = true) :
    ¬ (lZ c N s N).1 = 0 ∧ (lZ c N s N).2 0 = nI a ∧ (lZ c N s N).2 1 = nI (a + j) ∧ (lZ c N s N).2 2 = nI k ∧ (lZ c N s N).2 3 = nI (k + i) := by
  have e : lY c a (a + j) k (lX c N a (a + j) (lB c N a (lZ c N s a) j) k) (i + 1) = addT (lY c a (a + j) k (lX c N a (a + j) (lB c N a (lZ c N s a) j) k) i) a (a + j) k (k + i) := if_pos ht
  have st := stay_all (c := c) (s := s) ha hj hk hi
  rw [e] at st
  obtain ⟨q1, q2⟩ := st (by show ¬ _ + 1 = 0; omega)
  have q3 : (addT (lY c a (a + j) k (lX c N a (a + j) (lB c N a (lZ c N s a) j) k) i) a (a + j) k (k + i)).2 = _ := if_pos h0
  rw [q3] at q2
  rw [q2]
  exact ⟨q1, rfl, rfl, rfl, rfl⟩
/-- who is in just one of a and b: c tells d -/
theorem tr_d {c a b x y : Nat} (h : trP c a b x y = true) : y = a ^^^ b ^^^ x := by
  unfold trP tdB at h
  simp only [Bool.and_eq_true, decide_eq_true_eq] at h
  rw [h.2.2, Nat.xor_comm x y, Nat.xor_assoc, Nat.xor_self, Nat.xor_zero]
theorem lY_1 (c a b x : Nat) (s : TS) : ∀ k, lY c a b x s k = if (x ≤ a ^^^ b ^^^ x ∧ a ^^^ b ^^^ x < x + k) ∧ trP c a b x (a ^^^ b ^^^ x) = true then addT s a b x (a ^^^ b ^^^ x) else s
  | 0 => by rw [if_neg (by omega)]; rfl
  | k + 1 => by
    show stT c a b x (x + k) (lY c a b x s k) = _
    rw [lY_1 c a b x s k]
    unfold stT
    by_cases e : x + k = a ^^^ b ^^^ x
    · have n0 : ¬ ((x ≤ a ^^^ b ^^^ x ∧ a ^^^ b ^^^ x < x + k) ∧ trP c a b x (a ^^^ b ^^^ x) = true) := fun q => by omega
      rw [if_neg n0, e]
      by_cases t : trP c a b x (a ^^^ b ^^^ x) = true
      · rw [if_pos t, if_pos ⟨by omega, t⟩]
      · rw [if_neg t, if_neg (fun q => t q.2)]
    · rw [if_neg (fun q => e (tr_d q))]
      by_cases t : (x ≤ a ^^^ b ^^^ x ∧ a ^^^ b ^^^ x < x + k) ∧ trP c a b x (a ^^^ b ^^^ x) = true
      · rw [if_pos t, if_pos ⟨by omega, t.2⟩]
      · rw [if_neg t, if_neg (fun q => t ⟨by omega, q.2⟩)]
theorem xor3 {n a b x : Nat} (ha : a < 2 ^ n) (hb : b < 2 ^ n) (hx : x < 2 ^ n) : a ^^^ b ^^^ x < 2 ^ n := Nat.xor_lt_two_pow (Nat.xor_lt_two_pow ha hb) hx
def cdB (c a b x : Nat) : Bool := decide (x ≤ a ^^^ b ^^^ x) && (!c.testBit x && !c.testBit (a ^^^ b ^^^ x)) && decide (a &&& b = x &&& (a ^^^ b ^^^ x))
theorem xx (a b x : Nat) : x ^^^ (a ^^^ b ^^^ x) = a ^^^ b := by rw [Nat.xor_comm (a ^^^ b) x, ← Nat.xor_assoc, Nat.xor_self, Nat.zero_xor]
theorem lX_s {c n a b : Nat} {s : TS} {k : Nat} (ha : a < 2 ^ n) (hb : b < 2 ^ n) (hk : k < 2 ^ n) (h1 : c.testBit a = true) (h2 : c.testBit b = true) : lX c (2 ^ n) a b s (k + 1) = if cdB c a b k = true then addT (lX c (2 ^ n) a b s k) a b k (a ^^^ b ^^^ k) else lX c (2 ^ n) a b s k := by
  show lY c a b k (lX c (2 ^ n) a b s k) (2 ^ n - k) = _
  rw [lY_1]
  have l := xor3 ha hb hk
  have e : ((k ≤ a ^^^ b ^^^ k ∧ a ^^^ b ^^^ k < k + (2 ^ n - k)) ∧ trP c a b k (a ^^^ b ^^^ k) = true) ↔ cdB c a b k = true := by
    unfold cdB trP tdB
    rw [h1, h2, xx, decide_eq_true (rfl : a ^^^ b = a ^^^ b)]
    simp only [Bool.and_eq_true, decide_eq_true_eq, Bool.true_and, Bool.and_true]
    constructor
    · intro q; exact ⟨⟨q.1.1, q.2.1⟩, q.2.2⟩
    · intro q; exact ⟨⟨q.1.1, by omega⟩, q.1.2, q.2⟩
  by_cases t : cdB c a b k = true
  · rw [if_pos t, if_pos (e.mpr t)]
  · rw [if_neg t, if_neg (fun q => t (e.mp q))]
theorem st_no {c a b x y : Nat} {s : TS} (h : trP c a b x y = false) : stT c a b x y s = s := if_neg (by rw [h]; decide)
theorem lX_no {c N a b : Nat} {s : TS} (h : c.testBit a = false ∨ c.testBit b = false) : ∀ k, lX c N a b s k = s
  | 0 => rfl
  | k + 1 => by
    show lY c a b k (lX c N a b s k) (N - k) = s
    rw [lX_no h k, lY_1, if_neg]
    intro q
    have := q.2
    unfold trP at this
    rcases h with h | h <;> rw [h] at this <;> simp at this
def trS (M : MI) (s : TS) : MI := sr (s1 M 50 0 (nI s.1)) 51 s.2
theorem trS_0 (M : MI) : trS M (0, M 51) = s1 M 50 0 0 := by
  unfold trS
  have e : M 51 = s1 M 50 0 (nI 0) 51 := (s1_ne (by decide)).symm
  show sr (s1 M 50 0 (nI 0)) 51 (M 51) = _
  rw [e, sr_self]
  rfl
theorem trS_50 (M : MI) (s : TS) : trS M s 50 0 = nI s.1 := by unfold trS; rw [sr_ne (by decide), s1_eq]
theorem trS_51 (M : MI) (s : TS) : trS M s 51 = s.2 := sr_eq _ _ _
theorem trS_ne {M : MI} {s : TS} {i : Nat} (h : i ≠ 50) (h2 : i ≠ 51) : trS M s i = M i := by unfold trS; rw [sr_ne h2, s1_ne h]
theorem trS_x {X M : MI} {s : TS} (h : ∀ i, i ≠ 50 → i ≠ 51 → X i = M i) (h0 : ∀ k, X 50 k = if k = 0 then nI s.1 else M 50 k) (h1 : X 51 = s.2) : X = trS M s := by
  funext i
  by_cases e : i = 51
  · subst e; rw [h1, trS_51]
  · by_cases e2 : i = 50
    · subst e2
      funext k
      rw [h0 k]
      unfold trS
      rw [sr_ne (by decide), s1_at]
      simp
    · rw [h i e2 e, trS_ne e2 e]
theorem trS_o (M : MI) (s : TS) (k : Nat) : trS M s 50 k = if k = 0 then nI s.1 else M 50 k := by unfold trS; rw [sr_ne (by decide), s1_at]; simp
theorem trS_a1 {M : MI} {s : TS} (h : ¬ s.1 = 0) (a b x y : Nat) : s1 (trS M s) 50 0 (nI s.1 + 1) = trS M (addT s a b x y) := by
  refine trS_x (fun i h1 h2 => by rw [s1_ne h1, trS_ne h1 h2]) (fun k => ?_) ?_
  · by_cases e : k = 0
    · subst e; rw [s1_eq, if_pos rfl, nI_1]; rfl
    · rw [s1_nk e, if_neg e, trS_o, if_neg e]
  · rw [s1_ne (by decide), trS_51]
    exact (if_neg h).symm
theorem trS_a0 {M : MI} {s : TS} (h : s.1 = 0) (a b x y : Nat) : s1 (s1 (s1 (s1 (s1 (trS M s) 51 0 (nI a)) 51 1 (nI b)) 51 2 (nI x)) 51 3 (nI y)) 50 0 (nI s.1 + 1) = trS M (addT s a b x y) := by
  refine trS_x (fun i h1 h2 => by rw [s1_ne h1, s1_ne h2, s1_ne h2, s1_ne h2, s1_ne h2, trS_ne h1 h2]) (fun k => ?_) ?_
  · by_cases e : k = 0
    · subst e; rw [s1_eq, if_pos rfl, nI_1]; rfl
    · rw [s1_nk e, if_neg e, s1_ne (by decide), s1_ne (by decide), s1_ne (by decide), s1_ne (by decide), trS_o, if_neg e]
  · rw [s1_ne (by decide)]
    have e : (addT s a b x y).2 = upd (upd (upd (upd s.2 0 (nI a)) 1 (nI b)) 2 (nI x)) 3 (nI y) := if_pos h
    rw [e]
    funext k
    rw [s1_at, s1_at, s1_at, s1_at, trS_51]
    simp [upd]
set_option maxRecDepth 100000 in
set_option maxHeartbeats 4000000 in
theorem c_X7_addTrade {g : GC} {d : Nat} {M : MI} {L : ML} {s : TS} (hs : s.1 < 2 ^ 31) {a b x y : Nat} : CfV g (d) yX7_addTrade cX7_addTrade 5 [rf g 50, .int (nI a), .int (nI b), .int (nI x), .int (nI y)] (trS M s) L (trS M (addT s a b x y)) (L) := by
  refine cfV_of (own := RX7) (l := [some (rf g 50), some (.int (nI a)), some (.int (nI b)), some (.int (nI x)), some (.int (nI y))]) 0 rfl rfl rfl (Nat.le_of_ble_eq_true rfl) ?_
  refine tm_aload_0 1 rfl dX7_addTrade_0 ?_
  refine tm_geti fl_X7_7 rfl rfl 4 rfl dX7_addTrade_1 ?_
  rw [trS_50]
  refine tm_if_ne 36 7 rfl rfl dX7_addTrade_4 (fun h4 => ?_) (fun h4 => ?_)
  · refine tm_aload_0 37 rfl dX7_addTrade_36 ?_
    refine tm_dup rfl 38 rfl dX7_addTrade_37 ?_
    refine tm_geti fl_X7_7 rfl rfl 41 rfl dX7_addTrade_38 ?_
    first | (have z : nI s.1 = 0 := h4; rw [s1_ne (by decide), s1_ne (by decide), s1_ne (by decide), s1_ne (by decide), trS_50]) | rw [trS_50]
    refine tm_iconst (1) rfl 42 rfl dX7_addTrade_41 ?_
    refine tm_iadd 43 rfl dX7_addTrade_42 ?_
    refine tm_puti fl_X7_7 fw_6_0 rfl rfl rfl rfl 46 rfl dX7_addTrade_43 ?_
    exact tm_vret (by first | (have z : ¬ nI s.1 = 0 := h4; exact trS_a1 (fun q => z (by rw [q]; rfl)) a b x y) | (have z : nI s.1 = 0 := h4; exact trS_a0 ((nI_eq (b := 0) hs (by decide)).mp z) a b x y)) rfl dX7_addTrade_46
  · refine tm_aload_0 8 rfl dX7_addTrade_7 ?_
    refine tm_getr fl_X7_13 rfl rfl 11 rfl dX7_addTrade_8 ?_
    refine tm_iconst (0) rfl 12 rfl dX7_addTrade_11 ?_
    refine tm_iload_1 13 rfl dX7_addTrade_12 ?_
    refine tm_ast rfl (ix := 0) ⟨by decide, by decide, by decide⟩ 14 rfl dX7_addTrade_13 ?_
    refine tm_aload_0 15 rfl dX7_addTrade_14 ?_
    refine tm_getr fl_X7_13 rfl rfl 18 rfl dX7_addTrade_15 ?_
    refine tm_iconst (1) rfl 19 rfl dX7_addTrade_18 ?_
    refine tm_iload_2 20 rfl dX7_addTrade_19 ?_
    refine tm_ast rfl (ix := 1) ⟨by decide, by decide, by decide⟩ 21 rfl dX7_addTrade_20 ?_
    refine tm_aload_0 22 rfl dX7_addTrade_21 ?_
    refine tm_getr fl_X7_13 rfl rfl 25 rfl dX7_addTrade_22 ?_
    refine tm_iconst (2) rfl 26 rfl dX7_addTrade_25 ?_
    refine tm_iload_3 27 rfl dX7_addTrade_26 ?_
    refine tm_ast rfl (ix := 2) ⟨by decide, by decide, by decide⟩ 28 rfl dX7_addTrade_27 ?_
    refine tm_aload_0 29 rfl dX7_addTrade_28 ?_
    refine tm_getr fl_X7_13 rfl rfl 32 rfl dX7_addTrade_29 ?_
    refine tm_iconst (3) rfl 33 rfl dX7_addTrade_32 ?_
    refine tm_iload_4 35 rfl dX7_addTrade_33 ?_
    refine tm_ast rfl (ix := 3) ⟨by decide, by decide, by decide⟩ 36 rfl dX7_addTrade_35 ?_
    refine tm_aload_0 37 rfl dX7_addTrade_36 ?_
    refine tm_dup rfl 38 rfl dX7_addTrade_37 ?_
    refine tm_geti fl_X7_7 rfl rfl 41 rfl dX7_addTrade_38 ?_
    first | (have z : nI s.1 = 0 := h4; rw [s1_ne (by decide), s1_ne (by decide), s1_ne (by decide), s1_ne (by decide), trS_50]) | rw [trS_50]
    refine tm_iconst (1) rfl 42 rfl dX7_addTrade_41 ?_
    refine tm_iadd 43 rfl dX7_addTrade_42 ?_
    refine tm_puti fl_X7_7 fw_6_0 rfl rfl rfl rfl 46 rfl dX7_addTrade_43 ?_
    exact tm_vret (by first | (have z : ¬ nI s.1 = 0 := h4; exact trS_a1 (fun q => z (by rw [q]; rfl)) a b x y) | (have z : nI s.1 = 0 := h4; exact trS_a0 ((nI_eq (b := 0) hs (by decide)).mp z) a b x y)) rfl dX7_addTrade_46

theorem cd_y {c a b k : Nat} (h1 : nI k ≤ nI (a ^^^ b ^^^ k)) (h2 : (!c.testBit k && !c.testBit (a ^^^ b ^^^ k)) = true) (h3 : a &&& b = k &&& (a ^^^ b ^^^ k)) (hk : k < 2 ^ 31) (hd : a ^^^ b ^^^ k < 2 ^ 31) : cdB c a b k = true := by
  unfold cdB
  rw [fa_le, nI_toInt hk, nI_toInt hd] at h1
  rw [h2, decide_eq_true h3, decide_eq_true (by omega)]
  rfl
theorem fa_le_of {a b : Int32} (h : ¬ a < b) : b ≤ a := fa_of_nlt h
theorem cd_3 {c a b k : Nat} (h : ¬ nI (a &&& b) = nI (k &&& (a ^^^ b ^^^ k))) : ¬ cdB c a b k = true := fun q => by
  unfold cdB at q
  simp only [Bool.and_eq_true, decide_eq_true_eq] at q
  exact h (by rw [q.2])
theorem cd_2 {c a b k : Nat} (h : (!c.testBit k && !c.testBit (a ^^^ b ^^^ k)) = false) : ¬ cdB c a b k = true := fun q => by
  unfold cdB at q
  rw [h, Bool.and_false, Bool.false_and] at q
  cases q
theorem cd_1 {c a b k : Nat} (h1 : nI (a ^^^ b ^^^ k) < nI k) (hk : k < 2 ^ 31) (hd : a ^^^ b ^^^ k < 2 ^ 31) : ¬ cdB c a b k = true := fun q => by
  unfold cdB at q
  simp only [Bool.and_eq_true, decide_eq_true_eq] at q
  rw [fa_lt, nI_toInt hk, nI_toInt hd] at h1
  omega
set_option maxRecDepth 100000 in
set_option maxHeartbeats 4000000 in
theorem c_X7_findFor {g : GC} {d : Nat} {M : MI} {L : ML} {n c a b : Nat} (h4 : n ≤ 4) (hc : c < 2 ^ 2 ^ n) (ha : a < 2 ^ n) (hb : b < 2 ^ n) (h1 : c.testBit a = true) (h2 : c.testBit b = true) {s : TS} (hs : s.1 ≤ 100000) : CfV g (d + 1) yX7_findFor cX7_findFor 8 [rf g 50, .int (nI n), .int (nI c), .int (nI a), .int (nI b)] (trS M s) L (trS M (lX c (2 ^ n) a b s (2 ^ n))) (L) := by
  have h16 := pow4 h4
  have hp1 := Nat.two_pow_pos n
  have h65 := p65 h4
  refine cfV_of (own := RX7) (l := [some (rf g 50), some (.int (nI n)), some (.int (nI c)), some (.int (nI a)), some (.int (nI b)), none, none, none]) 3 rfl rfl rfl (Nat.le_of_ble_eq_true rfl) ?_
  refine tm_iconst (0) rfl 1 rfl dX7_findFor_0 ?_
  refine tm_istore_5 (by decide) rfl 3 rfl dX7_findFor_1 ?_
  refine tm_loop (N := 2 ^ n) (fun k => Tm g (d + 1) RX7 cX7_findFor 8 none (QV g (trS M (lX c (2 ^ n) a b s (2 ^ n))) (L)) 3 [some (rf g 50), some (.int (nI n)), some (.int (nI c)), some (.int (nI a)), some (.int (nI b)), some (.int (nI k)), none, none] [] (trS M (lX c (2 ^ n) a b s k)) (L)) (fun k hk ih => ?_) ?_
  · refine tm_iload_5 5 rfl dX7_findFor_3 ?_
    refine tm_iconst (1) rfl 6 rfl dX7_findFor_5 ?_
    refine tm_iload_1 7 rfl dX7_findFor_6 ?_
    refine tm_ishl 8 rfl dX7_findFor_7 ?_
    rw [sh_1 n (by omega)]
    refine tm_icmp_ge_f 11 (nI_ge hk (by omega)) rfl rfl dX7_findFor_8 ?_
    refine tm_iload_3 12 rfl dX7_findFor_11 ?_
    refine tm_iload_4 14 rfl dX7_findFor_12 ?_
    refine tm_ixor 15 rfl dX7_findFor_14 ?_
    refine tm_iload_5 17 rfl dX7_findFor_15 ?_
    refine tm_ixor 18 rfl dX7_findFor_17 ?_
    rw [fb_xorI, fb_xorI]
    have hd := xor3 ha hb hk
    refine tm_istore_6 (by decide) rfl 20 rfl dX7_findFor_18 ?_
    refine tm_iload_2 21 rfl dX7_findFor_20 ?_
    refine tm_iload_5 23 rfl dX7_findFor_21 ?_
    refine tm_callS_I (c_X0_says (c := c) (k := k) (by omega) (by omega)) ms_X0_says ml_X7_17 rfl rfl (Nat.le_of_ble_eq_true rfl) 26 rfl dX7_findFor_23 ?_
    refine tm_join1 43 (bI (!c.testBit k && !c.testBit (a ^^^ b ^^^ k))) ?_ (fun hJ43 => ?_)
    · refine tm_istore_7 (by decide) rfl 45 rfl dX7_findFor_43 ?_
      refine tm_iload_6 47 rfl dX7_findFor_45 ?_
      refine tm_iload_5 49 rfl dX7_findFor_47 ?_
      refine tm_icmp_lt 80 52 rfl rfl dX7_findFor_49 (fun h49 => ?_) (fun h49 => ?_)
      · refine tm_iinc_5 (nI (k + 1)) (iinc1 k) (by decide) rfl 83 rfl dX7_findFor_80 ?_
        refine tm_goto 3 rfl dX7_findFor_83 ?_
        refine tm_wkr (l := [some (rf g 50), some (.int (nI n)), some (.int (nI c)), some (.int (nI a)), some (.int (nI b)), some (.int (nI (k + 1))), none, none]) ?_ (And.intro rfl (And.intro rfl (And.intro rfl (And.intro rfl (And.intro rfl (And.intro rfl trivial))))))
        rw [lX_s ha hb hk h1 h2] at ih
        first
          | (have z : nI (a &&& b) = nI (k &&& (a ^^^ b ^^^ k)) := h66; rw [if_pos (cd_y (fa_le_of h49) ((bI_n0 _).mp h54) ((nI_eq (Nat.lt_of_le_of_lt Nat.and_le_left (by omega)) (Nat.lt_of_le_of_lt Nat.and_le_left (by omega))).mp z) (by omega) (by omega))] at ih; exact ih)
          | (have z : ¬ nI (a &&& b) = nI (k &&& (a ^^^ b ^^^ k)) := h66; rw [if_neg (cd_3 z)] at ih; exact ih)
          | (have z := (bI_0 _).mp h54; rw [if_neg (cd_2 z)] at ih; exact ih)
          | (rw [if_neg (cd_1 h49 (by omega) (by omega))] at ih; exact ih)
      · refine tm_iload_7 54 rfl dX7_findFor_52 ?_
        refine tm_if_eq 80 57 rfl rfl dX7_findFor_54 (fun h54 => ?_) (fun h54 => ?_)
        · refine tm_iinc_5 (nI (k + 1)) (iinc1 k) (by decide) rfl 83 rfl dX7_findFor_80 ?_
          refine tm_goto 3 rfl dX7_findFor_83 ?_
          refine tm_wkr (l := [some (rf g 50), some (.int (nI n)), some (.int (nI c)), some (.int (nI a)), some (.int (nI b)), some (.int (nI (k + 1))), none, none]) ?_ (And.intro rfl (And.intro rfl (And.intro rfl (And.intro rfl (And.intro rfl (And.intro rfl trivial))))))
          rw [lX_s ha hb hk h1 h2] at ih
          first
            | (have z : nI (a &&& b) = nI (k &&& (a ^^^ b ^^^ k)) := h66; rw [if_pos (cd_y (fa_le_of h49) ((bI_n0 _).mp h54) ((nI_eq (Nat.lt_of_le_of_lt Nat.and_le_left (by omega)) (Nat.lt_of_le_of_lt Nat.and_le_left (by omega))).mp z) (by omega) (by omega))] at ih; exact ih)
            | (have z : ¬ nI (a &&& b) = nI (k &&& (a ^^^ b ^^^ k)) := h66; rw [if_neg (cd_3 z)] at ih; exact ih)
            | (have z := (bI_0 _).mp h54; rw [if_neg (cd_2 z)] at ih; exact ih)
            | (rw [if_neg (cd_1 h49 (by omega) (by omega))] at ih; exact ih)
        · refine tm_iload_3 58 rfl dX7_findFor_57 ?_
          refine tm_iload_4 60 rfl dX7_findFor_58 ?_
          refine tm_iand 61 rfl dX7_findFor_60 ?_
          refine tm_iload_5 63 rfl dX7_findFor_61 ?_
          refine tm_iload_6 65 rfl dX7_findFor_63 ?_
          refine tm_iand 66 rfl dX7_findFor_65 ?_
          rw [fa_and, fa_and]
          refine tm_icmp_ne 80 69 rfl rfl dX7_findFor_66 (fun h66 => ?_) (fun h66 => ?_)
          · refine tm_iinc_5 (nI (k + 1)) (iinc1 k) (by decide) rfl 83 rfl dX7_findFor_80 ?_
            refine tm_goto 3 rfl dX7_findFor_83 ?_
            refine tm_wkr (l := [some (rf g 50), some (.int (nI n)), some (.int (nI c)), some (.int (nI a)), some (.int (nI b)), some (.int (nI (k + 1))), none, none]) ?_ (And.intro rfl (And.intro rfl (And.intro rfl (And.intro rfl (And.intro rfl (And.intro rfl trivial))))))
            rw [lX_s ha hb hk h1 h2] at ih
            first
              | (have z : nI (a &&& b) = nI (k &&& (a ^^^ b ^^^ k)) := h66; rw [if_pos (cd_y (fa_le_of h49) ((bI_n0 _).mp h54) ((nI_eq (Nat.lt_of_le_of_lt Nat.and_le_left (by omega)) (Nat.lt_of_le_of_lt Nat.and_le_left (by omega))).mp z) (by omega) (by omega))] at ih; exact ih)
              | (have z : ¬ nI (a &&& b) = nI (k &&& (a ^^^ b ^^^ k)) := h66; rw [if_neg (cd_3 z)] at ih; exact ih)
              | (have z := (bI_0 _).mp h54; rw [if_neg (cd_2 z)] at ih; exact ih)
              | (rw [if_neg (cd_1 h49 (by omega) (by omega))] at ih; exact ih)
          · have hbb := lX_b c h16 a b s k
            refine tm_aload_0 70 rfl dX7_findFor_69 ?_
            refine tm_iload_3 71 rfl dX7_findFor_70 ?_
            refine tm_iload_4 73 rfl dX7_findFor_71 ?_
            refine tm_iload_5 75 rfl dX7_findFor_73 ?_
            refine tm_iload_6 77 rfl dX7_findFor_75 ?_
            refine tm_callV_V (ci := 6) (c_X7_addTrade (s := lX c (2 ^ n) a b s k) (by omega)) mv_X7_addTrade ml_X7_27 rfl rfl rfl rfl rfl (Nat.le_of_ble_eq_true rfl) 80 rfl dX7_findFor_77 ?_
            refine tm_iinc_5 (nI (k + 1)) (iinc1 k) (by decide) rfl 83 rfl dX7_findFor_80 ?_
            refine tm_goto 3 rfl dX7_findFor_83 ?_
            refine tm_wkr (l := [some (rf g 50), some (.int (nI n)), some (.int (nI c)), some (.int (nI a)), some (.int (nI b)), some (.int (nI (k + 1))), none, none]) ?_ (And.intro rfl (And.intro rfl (And.intro rfl (And.intro rfl (And.intro rfl (And.intro rfl trivial))))))
            rw [lX_s ha hb hk h1 h2] at ih
            first
              | (have z : nI (a &&& b) = nI (k &&& (a ^^^ b ^^^ k)) := h66; rw [if_pos (cd_y (fa_le_of h49) ((bI_n0 _).mp h54) ((nI_eq (Nat.lt_of_le_of_lt Nat.and_le_left (by omega)) (Nat.lt_of_le_of_lt Nat.and_le_left (by omega))).mp z) (by omega) (by omega))] at ih; exact ih)
              | (have z : ¬ nI (a &&& b) = nI (k &&& (a ^^^ b ^^^ k)) := h66; rw [if_neg (cd_3 z)] at ih; exact ih)
              | (have z := (bI_0 _).mp h54; rw [if_neg (cd_2 z)] at ih; exact ih)
              | (rw [if_neg (cd_1 h49 (by omega) (by omega))] at ih; exact ih)
    · refine tm_if_ne 42 29 rfl rfl dX7_findFor_26 (fun h26 => ?_) (fun h26 => ?_)
      · refine tm_iconst (0) rfl 43 rfl dX7_findFor_42 ?_
        exact tm_top (by first | (have z : bI (c.testBit (a ^^^ b ^^^ k)) = 0 := h35; rw [(bI_0 _).mp h26, (bI_0 _).mp z]; rfl) | (have z : ¬ bI (c.testBit (a ^^^ b ^^^ k)) = 0 := h35; rw [(bI_n0 _).mp z, Bool.not_true, Bool.and_false]; rfl) | (rw [(bI_n0 _).mp h26]; rfl)) hJ43
      · refine tm_iload_2 30 rfl dX7_findFor_29 ?_
        refine tm_iload_6 32 rfl dX7_findFor_30 ?_
        refine tm_callS_I (c_X0_says (c := c) (k := a ^^^ b ^^^ k) (by omega) (by omega)) ms_X0_says ml_X7_17 rfl rfl (Nat.le_of_ble_eq_true rfl) 35 rfl dX7_findFor_32 ?_
        refine tm_if_ne 42 38 rfl rfl dX7_findFor_35 (fun h35 => ?_) (fun h35 => ?_)
        · refine tm_iconst (0) rfl 43 rfl dX7_findFor_42 ?_
          exact tm_top (by first | (have z : bI (c.testBit (a ^^^ b ^^^ k)) = 0 := h35; rw [(bI_0 _).mp h26, (bI_0 _).mp z]; rfl) | (have z : ¬ bI (c.testBit (a ^^^ b ^^^ k)) = 0 := h35; rw [(bI_n0 _).mp z, Bool.not_true, Bool.and_false]; rfl) | (rw [(bI_n0 _).mp h26]; rfl)) hJ43
        · refine tm_iconst (1) rfl 39 rfl dX7_findFor_38 ?_
          refine tm_goto 43 rfl dX7_findFor_39 ?_
          exact tm_top (by first | (have z : bI (c.testBit (a ^^^ b ^^^ k)) = 0 := h35; rw [(bI_0 _).mp h26, (bI_0 _).mp z]; rfl) | (have z : ¬ bI (c.testBit (a ^^^ b ^^^ k)) = 0 := h35; rw [(bI_n0 _).mp z, Bool.not_true, Bool.and_false]; rfl) | (rw [(bI_n0 _).mp h26]; rfl)) hJ43
  · refine tm_iload_5 5 rfl dX7_findFor_3 ?_
    refine tm_iconst (1) rfl 6 rfl dX7_findFor_5 ?_
    refine tm_iload_1 7 rfl dX7_findFor_6 ?_
    refine tm_ishl 8 rfl dX7_findFor_7 ?_
    rw [sh_1 n (by omega)]
    refine tm_icmp_ge_t 86 (nI_le (Nat.le_refl _) (by omega)) rfl dX7_findFor_8 ?_
    exact tm_vret rfl rfl dX7_findFor_86

set_option maxRecDepth 100000 in
set_option maxHeartbeats 4000000 in
theorem c_X7_find {g : GC} {d : Nat} {M : MI} {L : ML} {n c : Nat} (h4 : n ≤ 4) (hc : c < 2 ^ 2 ^ n) : CfV g (d + 2) yX7_find cX7_find 5 [rf g 50, .int (nI n), .int (nI c)] M L (trS M (lZ c (2 ^ n) (0, M 51) (2 ^ n))) (L) := by
  have h16 := pow4 h4
  have hp1 := Nat.two_pow_pos n
  have h65 := p65 h4
  refine cfV_of (own := RX7) (l := [some (rf g 50), some (.int (nI n)), some (.int (nI c)), none, none]) 2 rfl rfl rfl (Nat.le_of_ble_eq_true rfl) ?_
  refine tm_aload_0 1 rfl dX7_find_0 ?_
  refine tm_iconst (0) rfl 2 rfl dX7_find_1 ?_
  refine tm_puti fl_X7_7 fw_6_0 rfl rfl rfl rfl 5 rfl dX7_find_2 ?_
  refine tm_iconst (0) rfl 6 rfl dX7_find_5 ?_
  refine tm_istore_3 (by decide) rfl 7 rfl dX7_find_6 ?_
  refine tm_mem (trS_0 M) rfl ?_
  refine tm_loop (N := 2 ^ n) (fun a => Tm g (d + 2) RX7 cX7_find 5 none (QV g (trS M (lZ c (2 ^ n) (0, M 51) (2 ^ n))) (L)) 7 [some (rf g 50), some (.int (nI n)), some (.int (nI c)), some (.int (nI a)), none] [] (trS M (lZ c (2 ^ n) (0, M 51) a)) (L)) (fun a ha ih => ?_) ?_
  · refine tm_iload_3 8 rfl dX7_find_7 ?_
    refine tm_iconst (1) rfl 9 rfl dX7_find_8 ?_
    refine tm_iload_1 10 rfl dX7_find_9 ?_
    refine tm_ishl 11 rfl dX7_find_10 ?_
    rw [sh_1 n (by omega)]
    refine tm_icmp_ge_f 14 (nI_ge ha (by omega)) rfl rfl dX7_find_11 ?_
    refine tm_iload_3 15 rfl dX7_find_14 ?_
    refine tm_istore_4 (by decide) rfl 17 rfl dX7_find_15 ?_
    have hzb := lZ_b c h16 (0, M 51) a
    refine tm_loop (N := 2 ^ n - a) (fun j => Tm g (d + 2) RX7 cX7_find 5 none (QV g (trS M (lZ c (2 ^ n) (0, M 51) (2 ^ n))) (L)) 17 [some (rf g 50), some (.int (nI n)), some (.int (nI c)), some (.int (nI a)), some (.int (nI (a + j)))] [] (trS M (lB c (2 ^ n) a (lZ c (2 ^ n) (0, M 51) a) j)) (L)) (fun j hj ihj => ?_) ?_
    · refine tm_iload_4 19 rfl dX7_find_17 ?_
      refine tm_iconst (1) rfl 20 rfl dX7_find_19 ?_
      refine tm_iload_1 21 rfl dX7_find_20 ?_
      refine tm_ishl 22 rfl dX7_find_21 ?_
      rw [sh_1 n (by omega)]
      refine tm_icmp_ge_f 25 (nI_ge (by omega) (by omega)) rfl rfl dX7_find_22 ?_
      refine tm_iload_2 26 rfl dX7_find_25 ?_
      refine tm_iload_3 27 rfl dX7_find_26 ?_
      refine tm_callS_I (c_X0_says (c := c) (k := a) (by omega) (by omega)) ms_X0_says ml_X7_17 rfl rfl (Nat.le_of_ble_eq_true rfl) 30 rfl dX7_find_27 ?_
      refine tm_iconst (1) rfl 31 rfl dX7_find_30 ?_
      refine tm_icmp_ne 53 34 rfl rfl dX7_find_31 (fun h31 => ?_) (fun h31 => ?_)
      · refine tm_iinc_4 (nI (a + (j + 1))) (iinc1 (a + j)) (by decide) rfl 56 rfl dX7_find_53 ?_
        refine tm_goto 17 rfl dX7_find_56 ?_
        first
          | (have z : bI (c.testBit (a + j)) = 1 := h41; exact ihj)
          | (have z : ¬ bI (c.testBit (a + j)) = 1 := h41; rw [show lB c (2 ^ n) a (lZ c (2 ^ n) (0, M 51) a) (j + 1) = lB c (2 ^ n) a (lZ c (2 ^ n) (0, M 51) a) j from lX_no (Or.inr ((bI_n1 _).mp z)) _] at ihj; exact ihj)
          | (rw [show lB c (2 ^ n) a (lZ c (2 ^ n) (0, M 51) a) (j + 1) = lB c (2 ^ n) a (lZ c (2 ^ n) (0, M 51) a) j from lX_no (Or.inl ((bI_n1 _).mp h31)) _] at ihj; exact ihj)
      · refine tm_iload_2 35 rfl dX7_find_34 ?_
        refine tm_iload_4 37 rfl dX7_find_35 ?_
        refine tm_callS_I (c_X0_says (c := c) (k := a + j) (by omega) (by omega)) ms_X0_says ml_X7_17 rfl rfl (Nat.le_of_ble_eq_true rfl) 40 rfl dX7_find_37 ?_
        refine tm_iconst (1) rfl 41 rfl dX7_find_40 ?_
        refine tm_icmp_ne 53 44 rfl rfl dX7_find_41 (fun h41 => ?_) (fun h41 => ?_)
        · refine tm_iinc_4 (nI (a + (j + 1))) (iinc1 (a + j)) (by decide) rfl 56 rfl dX7_find_53 ?_
          refine tm_goto 17 rfl dX7_find_56 ?_
          first
            | (have z : bI (c.testBit (a + j)) = 1 := h41; exact ihj)
            | (have z : ¬ bI (c.testBit (a + j)) = 1 := h41; rw [show lB c (2 ^ n) a (lZ c (2 ^ n) (0, M 51) a) (j + 1) = lB c (2 ^ n) a (lZ c (2 ^ n) (0, M 51) a) j from lX_no (Or.inr ((bI_n1 _).mp z)) _] at ihj; exact ihj)
            | (rw [show lB c (2 ^ n) a (lZ c (2 ^ n) (0, M 51) a) (j + 1) = lB c (2 ^ n) a (lZ c (2 ^ n) (0, M 51) a) j from lX_no (Or.inl ((bI_n1 _).mp h31)) _] at ihj; exact ihj)
        · have hbb := lB_b c h16 a (lZ c (2 ^ n) (0, M 51) a) j
          refine tm_aload_0 45 rfl dX7_find_44 ?_
          refine tm_iload_1 46 rfl dX7_find_45 ?_
          refine tm_iload_2 47 rfl dX7_find_46 ?_
          refine tm_iload_3 48 rfl dX7_find_47 ?_
          refine tm_iload_4 50 rfl dX7_find_48 ?_
          refine tm_callV_V (ci := 6) (c_X7_findFor (s := lB c (2 ^ n) a (lZ c (2 ^ n) (0, M 51) a) j) (n := n) (c := c) (a := a) (b := a + j) h4 hc ha (by omega) ((bI_1 _).mp h31) ((bI_1 _).mp h41) (by omega)) mv_X7_findFor ml_X7_23 rfl rfl rfl rfl rfl (Nat.le_of_ble_eq_true rfl) 53 rfl dX7_find_50 ?_
          refine tm_iinc_4 (nI (a + (j + 1))) (iinc1 (a + j)) (by decide) rfl 56 rfl dX7_find_53 ?_
          refine tm_goto 17 rfl dX7_find_56 ?_
          first
            | (have z : bI (c.testBit (a + j)) = 1 := h41; exact ihj)
            | (have z : ¬ bI (c.testBit (a + j)) = 1 := h41; rw [show lB c (2 ^ n) a (lZ c (2 ^ n) (0, M 51) a) (j + 1) = lB c (2 ^ n) a (lZ c (2 ^ n) (0, M 51) a) j from lX_no (Or.inr ((bI_n1 _).mp z)) _] at ihj; exact ihj)
            | (rw [show lB c (2 ^ n) a (lZ c (2 ^ n) (0, M 51) a) (j + 1) = lB c (2 ^ n) a (lZ c (2 ^ n) (0, M 51) a) j from lX_no (Or.inl ((bI_n1 _).mp h31)) _] at ihj; exact ihj)
    · refine tm_iload_4 19 rfl dX7_find_17 ?_
      refine tm_iconst (1) rfl 20 rfl dX7_find_19 ?_
      refine tm_iload_1 21 rfl dX7_find_20 ?_
      refine tm_ishl 22 rfl dX7_find_21 ?_
      rw [sh_1 n (by omega)]
      refine tm_icmp_ge_t 59 (nI_le (by omega) (by omega)) rfl dX7_find_22 ?_
      refine tm_iinc_3 (nI (a + 1)) (iinc1 a) (by decide) rfl 62 rfl dX7_find_59 ?_
      refine tm_goto 7 rfl dX7_find_62 ?_
      exact tm_wkr ih (And.intro rfl (And.intro rfl (And.intro rfl (And.intro rfl trivial))))
  · refine tm_iload_3 8 rfl dX7_find_7 ?_
    refine tm_iconst (1) rfl 9 rfl dX7_find_8 ?_
    refine tm_iload_1 10 rfl dX7_find_9 ?_
    refine tm_ishl 11 rfl dX7_find_10 ?_
    rw [sh_1 n (by omega)]
    refine tm_icmp_ge_t 65 (nI_le (Nat.le_refl _) (by omega)) rfl dX7_find_11 ?_
    exact tm_vret rfl rfl dX7_find_65

def trM (σ : AS) (M : MI) (x : Int32) : MI := if inN x 5 = false then M else trS M (lZ σ.2.1 (2 ^ σ.1) (0, M 51) (2 ^ σ.1))
theorem trM_1 {σ : AS} {M : MI} {x : Int32} (h : inN x 5 = false) : trM σ M x = M := if_pos h
theorem trM_2 {σ : AS} {M : MI} {x : Int32} (h : inN x 5 = true) : trM σ M x = trS M (lZ σ.2.1 (2 ^ σ.1) (0, M 51) (2 ^ σ.1)) := if_neg (by rw [h]; decide)
theorem tr_ix {x : Int32} (h : inN x 5 = true) (h0 : ¬ x = 0) : ∃ k, k < 4 ∧ x - 1 = nI k ∧ iN x - 1 = k := by
  obtain ⟨k, hk, rfl⟩ := inN_of h
  rcases (show k = 0 ∨ k = 1 ∨ k = 2 ∨ k = 3 ∨ k = 4 by omega) with rfl | rfl | rfl | rfl | rfl
  · exact absurd rfl h0
  · exact ⟨0, by decide, by decide, by decide⟩
  · exact ⟨1, by decide, by decide, by decide⟩
  · exact ⟨2, by decide, by decide, by decide⟩
  · exact ⟨3, by decide, by decide, by decide⟩
theorem trM_e {σ : AS} {M : MI} {x : Int32} (h : inN x 5 = true) : trS M (lZ σ.2.1 (2 ^ σ.1) (0, M 51) (2 ^ σ.1)) = trM σ M x := (trM_2 h).symm
set_option maxRecDepth 100000 in
set_option maxHeartbeats 4000000 in
theorem c_X9_trade {g : GC} {d : Nat} {M : MI} {L : ML} {σ : AS} (hC : hasC M σ) (hσ : okS σ) {x : Int32} : CfI g (d + 3) yX9_trade cX9_trade 2 .int [rf g 0, .int x] M L (ansTr σ (M 51) x) (trM σ M x) (L) := by
  have hn := hC.1
  have h4 := hσ.2.1
  have h16 := pow4 h4
  have hp1 := Nat.two_pow_pos σ.1
  have hc := okp hσ
  have hzb := lZ_b σ.2.1 h16 (0, M 51) (2 ^ σ.1)
  have hz0 : ((0, M 51) : TS).1 = 0 := rfl
  refine cfI_of (own := RX9) (l := [some (rf g 0), some (.int x)]) 0 rfl rfl rfl (Nat.le_of_ble_eq_true rfl) ?_
  refine tm_iload_1 1 rfl dX9_trade_0 ?_
  refine tm_if_lt 9 4 rfl rfl dX9_trade_1 (fun h1 => ?_) (fun h1 => ?_)
  · refine tm_iconst (-1) rfl 10 rfl dX9_trade_9 ?_
    exact tm_iret (by first | exact (tr_1 (cod_c3 h1)).symm | exact (tr_1 (cod_c2 (N := 5) h6 (by decide) (by decide))).symm) (by first | exact (trM_1 (cod_c3 h1)).symm | exact (trM_1 (cod_c2 (N := 5) h6 (by decide) (by decide))).symm) rfl dX9_trade_10
  · refine tm_iload_1 5 rfl dX9_trade_4 ?_
    refine tm_iconst (4) rfl 6 rfl dX9_trade_5 ?_
    refine tm_icmp_le 11 9 rfl rfl dX9_trade_6 (fun h6 => ?_) (fun h6 => ?_)
    · have hx5 : inN x 5 = true := cod_c1 (N := 5) h1 h6 (by decide) (by decide)
      refine tm_aload_0 12 rfl dX9_trade_11 ?_
      refine tm_getr fl_X9_55 rfl rfl 15 rfl dX9_trade_12 ?_
      refine tm_aload_0 16 rfl dX9_trade_15 ?_
      refine tm_getr fl_X9_12 rfl rfl 19 rfl dX9_trade_16 ?_
      refine tm_geti fl_X9_67 rfl rfl 22 rfl dX9_trade_19 ?_
      rw [hn]
      refine tm_aload_0 23 rfl dX9_trade_22 ?_
      refine tm_getr fl_X9_12 rfl rfl 26 rfl dX9_trade_23 ?_
      refine tm_geti fl_X9_82 rfl rfl 29 rfl dX9_trade_26 ?_
      rw [hC.2.1]
      refine tm_callV_V (ci := 6) (c_X7_find h4 hσ.2.2.1) mv_X7_find ml_X9_228 rfl rfl rfl rfl rfl (Nat.le_of_ble_eq_true rfl) 32 rfl dX9_trade_29 ?_
      refine tm_iload_1 33 rfl dX9_trade_32 ?_
      refine tm_if_ne 44 36 rfl rfl dX9_trade_33 (fun h33 => ?_) (fun h33 => ?_)
      · refine tm_aload_0 45 rfl dX9_trade_44 ?_
        refine tm_getr fl_X9_55 rfl rfl 48 rfl dX9_trade_45 ?_
        refine tm_geti fl_X9_231 rfl rfl 51 rfl dX9_trade_48 ?_
        rw [trS_50]
        refine tm_if_ne 59 54 rfl rfl dX9_trade_51 (fun h51 => ?_) (fun h51 => ?_)
        · obtain ⟨k, hk, hk1, hk2⟩ := tr_ix hx5 h33
          refine tm_aload_0 60 rfl dX9_trade_59 ?_
          refine tm_getr fl_X9_55 rfl rfl 63 rfl dX9_trade_60 ?_
          refine tm_getr fl_X9_234 rfl rfl 66 rfl dX9_trade_63 ?_
          refine tm_iload_1 67 rfl dX9_trade_66 ?_
          refine tm_iconst (1) rfl 68 rfl dX9_trade_67 ?_
          refine tm_isub 69 rfl dX9_trade_68 ?_
          rw [hk1]
          refine tm_ald rfl (ix := k) (ix_nI (by omega) (by decide)) 70 rfl dX9_trade_69 ?_
          first | (have z : nI _ = 0 := h51; skip) | rw [trS_51]
          exact tm_iret (by first | (have z : nI (lZ σ.2.1 (2 ^ σ.1) (0, M 51) (2 ^ σ.1)).1 = 0 := h51; exact (tr_3 hx5 h33 ((nI_eq (b := 0) (by omega) (by decide)).mp z)).symm) | (rw [tr_4 hx5 h33 (fun q => h51 (by rw [q]; rfl)), hk2])) (trM_e hx5) rfl dX9_trade_70
        · refine tm_bipush (-5) (by decide) 56 rfl dX9_trade_54 ?_
          refine tm_goto 70 rfl dX9_trade_56 ?_
          first | (have z : nI _ = 0 := h51; skip) | rw [trS_51]
          exact tm_iret (by first | (have z : nI (lZ σ.2.1 (2 ^ σ.1) (0, M 51) (2 ^ σ.1)).1 = 0 := h51; exact (tr_3 hx5 h33 ((nI_eq (b := 0) (by omega) (by decide)).mp z)).symm) | (rw [tr_4 hx5 h33 (fun q => h51 (by rw [q]; rfl)), hk2])) (trM_e hx5) rfl dX9_trade_70
      · refine tm_aload_0 37 rfl dX9_trade_36 ?_
        refine tm_getr fl_X9_55 rfl rfl 40 rfl dX9_trade_37 ?_
        refine tm_geti fl_X9_231 rfl rfl 43 rfl dX9_trade_40 ?_
        rw [trS_50]
        exact tm_iret (tr_2 hx5 h33).symm (trM_e hx5) rfl dX9_trade_43
    · refine tm_iconst (-1) rfl 10 rfl dX9_trade_9 ?_
      exact tm_iret (by first | exact (tr_1 (cod_c3 h1)).symm | exact (tr_1 (cod_c2 (N := 5) h6 (by decide) (by decide))).symm) (by first | exact (trM_1 (cod_c3 h1)).symm | exact (trM_1 (cod_c2 (N := 5) h6 (by decide) (by decide))).symm) rfl dX9_trade_10

theorem td_1 {a b x y : Nat} (h : a &&& b = x &&& y) (h2 : a ^^^ b = x ^^^ y) : (1 : Int32) = bI (tdB a b x y) := by unfold tdB; rw [decide_eq_true h, decide_eq_true h2]; rfl
theorem td_2 {a b x y : Nat} (h2 : ¬ nI (a ^^^ b) = nI (x ^^^ y)) : (0 : Int32) = bI (tdB a b x y) := by unfold tdB; rw [decide_eq_false (show ¬ a ^^^ b = x ^^^ y from fun q => h2 (by rw [q])), Bool.and_false]; rfl
theorem td_3 {a b x y : Nat} (h2 : ¬ nI (a &&& b) = nI (x &&& y)) : (0 : Int32) = bI (tdB a b x y) := by unfold tdB; rw [decide_eq_false (fun q => h2 (by rw [q])), Bool.false_and]; rfl
set_option maxRecDepth 100000 in
set_option maxHeartbeats 4000000 in
theorem c_X10_isTrade {g : GC} {d : Nat} {M : MI} {L : ML} {a b x y : Nat} (ha : a < 2 ^ 31) (hb : b < 2 ^ 31) (hx : x < 2 ^ 31) (hy : y < 2 ^ 31) : CfI g (d) yX10_isTrade cX10_isTrade 4 .boolean [.int (nI a), .int (nI b), .int (nI x), .int (nI y)] M L (bI (tdB a b x y)) (M) (L) := by
  refine cfI_of (own := RX10) (l := [some (.int (nI a)), some (.int (nI b)), some (.int (nI x)), some (.int (nI y))]) 0 rfl rfl rfl (Nat.le_of_ble_eq_true rfl) ?_
  refine tm_iload_0 1 rfl dX10_isTrade_0 ?_
  refine tm_iload_1 2 rfl dX10_isTrade_1 ?_
  refine tm_iand 3 rfl dX10_isTrade_2 ?_
  refine tm_iload_2 4 rfl dX10_isTrade_3 ?_
  refine tm_iload_3 5 rfl dX10_isTrade_4 ?_
  refine tm_iand 6 rfl dX10_isTrade_5 ?_
  rw [fa_and, fa_and]
  refine tm_icmp_ne 22 9 rfl rfl dX10_isTrade_6 (fun h6 => ?_) (fun h6 => ?_)
  · refine tm_iconst (0) rfl 23 rfl dX10_isTrade_22 ?_
    exact tm_zret (by decide) (by first | exact td_1 ((nI_eq (Nat.lt_of_le_of_lt Nat.and_le_left ha) (Nat.lt_of_le_of_lt Nat.and_le_left hx)).mp h6) ((nI_eq (Nat.xor_lt_two_pow ha hb) (Nat.xor_lt_two_pow hx hy)).mp h15) | exact td_2 h15 | exact td_3 h6) rfl rfl dX10_isTrade_23
  · refine tm_iload_0 10 rfl dX10_isTrade_9 ?_
    refine tm_iload_1 11 rfl dX10_isTrade_10 ?_
    refine tm_ixor 12 rfl dX10_isTrade_11 ?_
    refine tm_iload_2 13 rfl dX10_isTrade_12 ?_
    refine tm_iload_3 14 rfl dX10_isTrade_13 ?_
    refine tm_ixor 15 rfl dX10_isTrade_14 ?_
    rw [fb_xorI, fb_xorI]
    refine tm_icmp_ne 22 18 rfl rfl dX10_isTrade_15 (fun h15 => ?_) (fun h15 => ?_)
    · refine tm_iconst (0) rfl 23 rfl dX10_isTrade_22 ?_
      exact tm_zret (by decide) (by first | exact td_1 ((nI_eq (Nat.lt_of_le_of_lt Nat.and_le_left ha) (Nat.lt_of_le_of_lt Nat.and_le_left hx)).mp h6) ((nI_eq (Nat.xor_lt_two_pow ha hb) (Nat.xor_lt_two_pow hx hy)).mp h15) | exact td_2 h15 | exact td_3 h6) rfl rfl dX10_isTrade_23
    · refine tm_iconst (1) rfl 19 rfl dX10_isTrade_18 ?_
      refine tm_goto 23 rfl dX10_isTrade_19 ?_
      exact tm_zret (by decide) (by first | exact td_1 ((nI_eq (Nat.lt_of_le_of_lt Nat.and_le_left ha) (Nat.lt_of_le_of_lt Nat.and_le_left hx)).mp h6) ((nI_eq (Nat.xor_lt_two_pow ha hb) (Nat.xor_lt_two_pow hx hy)).mp h15) | exact td_2 h15 | exact td_3 h6) rfl rfl dX10_isTrade_23

theorem t_no1 {c a b x y : Nat} (h : c.testBit a = false) : trP c a b x y = false := by unfold trP; rw [h]; simp
theorem t_no2 {c a b x y : Nat} (h : c.testBit b = false) : trP c a b x y = false := by unfold trP; rw [h]; simp
theorem t_no3 {c a b x y : Nat} (h : c.testBit x = true) : trP c a b x y = false := by unfold trP; rw [h]; simp
theorem t_no4 {c a b x y : Nat} (h : c.testBit y = true) : trP c a b x y = false := by unfold trP; rw [h]; simp
theorem t_no5 {c a b x y : Nat} (h : tdB a b x y = false) : trP c a b x y = false := by unfold trP; rw [h]; simp
theorem t_yes {c a b x y : Nat} (h1 : c.testBit a = true) (h2 : c.testBit b = true) (h3 : c.testBit x = false) (h4 : c.testBit y = false) (h5 : tdB a b x y = true) : trP c a b x y = true := by unfold trP; rw [h1, h2, h3, h4, h5]; rfl
set_option maxRecDepth 100000 in
set_option maxHeartbeats 4000000 in
theorem c_X10_trade_0 {g : GC} {d : Nat} {M : MI} {L : ML} {σ : AS} (hM : hasM M σ) (hσ : okS σ) (r : Nat → Int32) : CfI g (d + 2) yX10_trade cX10_trade 8 .int [rf g 54, .int 0] M L (ansTr σ r 0) (M) (L) := by
  have hn := hM.1
  have h4 := hσ.2.1
  have h16 := pow4 h4
  have hp1 := Nat.two_pow_pos σ.1
  have hc := okp hσ
  refine cfI_of (own := RX10) (l := [some (rf g 54), some (.int 0), none, none, none, none, none, none]) 6 rfl rfl rfl (Nat.le_of_ble_eq_true rfl) ?_
  refine tm_iload_1 1 rfl dX10_trade_0 ?_
  refine tm_i2l 2 rfl dX10_trade_1 ?_
  refine tm_lconst 0 rfl 3 rfl dX10_trade_2 ?_
  refine tm_ldc2 kl_X10_66 6 rfl dX10_trade_3 ?_
  refine tm_callS_I (c_X10_in) ms_X10_in ml_X10_60 rfl rfl (Nat.le_of_ble_eq_true rfl) 9 rfl dX10_trade_6 ?_
  refine tm_if_ne_t 14 (by decide) rfl dX10_trade_9 ?_
  refine tm_iconst (0) rfl 15 rfl dX10_trade_14 ?_
  refine tm_istore_2 (by decide) rfl 16 rfl dX10_trade_15 ?_
  refine tm_aload_0 17 rfl dX10_trade_16 ?_
  refine tm_getr fl_X10_11 rfl rfl 20 rfl dX10_trade_17 ?_
  refine tm_iconst (1) rfl 21 rfl dX10_trade_20 ?_
  refine tm_ald rfl (ix := 1) ⟨by decide, by decide, by decide⟩ 22 rfl dX10_trade_21 ?_
  rw [hM.2.1]
  refine tm_istore_3 (by decide) rfl 23 rfl dX10_trade_22 ?_
  refine tm_iconst (0) rfl 24 rfl dX10_trade_23 ?_
  refine tm_istore_4 (by decide) rfl 26 rfl dX10_trade_24 ?_
  refine tm_loop (N := (2 ^ σ.1)) (fun a => Tm g (d + 2) RX10 cX10_trade 8 (some .int) (QI g (ansTr σ r 0) (M) (L)) 26 [some (rf g 54), some (.int 0), some (.int (nI (lZ σ.2.1 (2 ^ σ.1) (0, r) a).1)), some (.int (nI σ.2.1)), some (.int (nI a)), none, none, none] [] (M) (L)) (fun a ha iha => ?_) ?_
  · refine tm_iload_4 28 rfl dX10_trade_26 ?_
    refine tm_aload_0 29 rfl dX10_trade_28 ?_
    refine tm_callV_I (ci := 9) (c_X10_lots hn h4) mv_X10_lots ml_X10_56 rfl rfl rfl rfl rfl (Nat.le_of_ble_eq_true rfl) 32 rfl dX10_trade_29 ?_
    refine tm_icmp_ge_f 35 (nI_ge ha (by omega)) rfl rfl dX10_trade_32 ?_
    refine tm_iload_4 37 rfl dX10_trade_35 ?_
    refine tm_istore_5 (by decide) rfl 39 rfl dX10_trade_37 ?_
    refine tm_loop (N := (2 ^ σ.1) - a) (fun j => Tm g (d + 2) RX10 cX10_trade 8 (some .int) (QI g (ansTr σ r 0) (M) (L)) 39 [some (rf g 54), some (.int 0), some (.int (nI (lB σ.2.1 (2 ^ σ.1) a (lZ σ.2.1 (2 ^ σ.1) (0, r) a) j).1)), some (.int (nI σ.2.1)), some (.int (nI a)), some (.int (nI (a + j))), none, none] [] (M) (L)) (fun j hj ihj => ?_) ?_
    · refine tm_iload_5 41 rfl dX10_trade_39 ?_
      refine tm_aload_0 42 rfl dX10_trade_41 ?_
      refine tm_callV_I (ci := 9) (c_X10_lots hn h4) mv_X10_lots ml_X10_56 rfl rfl rfl rfl rfl (Nat.le_of_ble_eq_true rfl) 45 rfl dX10_trade_42 ?_
      refine tm_icmp_ge_f 48 (nI_ge (by omega) (by omega)) rfl rfl dX10_trade_45 ?_
      refine tm_iconst (0) rfl 49 rfl dX10_trade_48 ?_
      refine tm_istore_6 (by decide) rfl 51 rfl dX10_trade_49 ?_
      refine tm_loop (N := (2 ^ σ.1)) (fun k => Tm g (d + 2) RX10 cX10_trade 8 (some .int) (QI g (ansTr σ r 0) (M) (L)) 51 [some (rf g 54), some (.int 0), some (.int (nI (lX σ.2.1 (2 ^ σ.1) a (a + j) (lB σ.2.1 (2 ^ σ.1) a (lZ σ.2.1 (2 ^ σ.1) (0, r) a) j) k).1)), some (.int (nI σ.2.1)), some (.int (nI a)), some (.int (nI (a + j))), some (.int (nI k)), none] [] (M) (L)) (fun k hk ihk => ?_) ?_
      · refine tm_iload_6 53 rfl dX10_trade_51 ?_
        refine tm_aload_0 54 rfl dX10_trade_53 ?_
        refine tm_callV_I (ci := 9) (c_X10_lots hn h4) mv_X10_lots ml_X10_56 rfl rfl rfl rfl rfl (Nat.le_of_ble_eq_true rfl) 57 rfl dX10_trade_54 ?_
        refine tm_icmp_ge_f 60 (nI_ge (by omega) (by omega)) rfl rfl dX10_trade_57 ?_
        refine tm_iload_6 62 rfl dX10_trade_60 ?_
        refine tm_istore_7 (by decide) rfl 64 rfl dX10_trade_62 ?_
        refine tm_loop (N := (2 ^ σ.1) - k) (fun i => Tm g (d + 2) RX10 cX10_trade 8 (some .int) (QI g (ansTr σ r 0) (M) (L)) 64 [some (rf g 54), some (.int 0), some (.int (nI (lY σ.2.1 a (a + j) k (lX σ.2.1 (2 ^ σ.1) a (a + j) (lB σ.2.1 (2 ^ σ.1) a (lZ σ.2.1 (2 ^ σ.1) (0, r) a) j) k) i).1)), some (.int (nI σ.2.1)), some (.int (nI a)), some (.int (nI (a + j))), some (.int (nI k)), some (.int (nI (k + i)))] [] (M) (L)) (fun i hi ihi => ?_) ?_
        · refine tm_iload_7 66 rfl dX10_trade_64 ?_
          refine tm_aload_0 67 rfl dX10_trade_66 ?_
          refine tm_callV_I (ci := 9) (c_X10_lots hn h4) mv_X10_lots ml_X10_56 rfl rfl rfl rfl rfl (Nat.le_of_ble_eq_true rfl) 70 rfl dX10_trade_67 ?_
          refine tm_icmp_ge_f 73 (nI_ge (by omega) (by omega)) rfl rfl dX10_trade_70 ?_
          refine tm_iload_3 74 rfl dX10_trade_73 ?_
          refine tm_iload_4 76 rfl dX10_trade_74 ?_
          refine tm_callS_I (c_X10_is (c := σ.2.1) (k := a) (by omega) (by omega)) ms_X10_is ml_X10_97 rfl rfl (Nat.le_of_ble_eq_true rfl) 79 rfl dX10_trade_76 ?_
          refine tm_if_eqB 163 82 rfl rfl dX10_trade_79 (fun h79 => ?_) (fun h79 => ?_)
          · refine tm_iinc_7 (nI (k + (i + 1))) (iinc1 (k + i)) (by decide) rfl 166 rfl dX10_trade_163 ?_
            refine tm_goto 64 rfl dX10_trade_166 ?_
            first
              | (have z : tdB a (a + j) k (k + i) = true := h120; rw [show lY σ.2.1 a (a + j) k (lX σ.2.1 (2 ^ σ.1) a (a + j) (lB σ.2.1 (2 ^ σ.1) a (lZ σ.2.1 (2 ^ σ.1) (0, r) a) j) k) (i + 1) = _ from if_pos (t_yes h79 h88 h97 h106 z)] at ihi; exact ihi)
              | (rw [show lY σ.2.1 a (a + j) k (lX σ.2.1 (2 ^ σ.1) a (a + j) (lB σ.2.1 (2 ^ σ.1) a (lZ σ.2.1 (2 ^ σ.1) (0, r) a) j) k) (i + 1) = (lY σ.2.1 a (a + j) k (lX σ.2.1 (2 ^ σ.1) a (a + j) (lB σ.2.1 (2 ^ σ.1) a (lZ σ.2.1 (2 ^ σ.1) (0, r) a) j) k) i) from st_no (by first | exact t_no5 h120 | exact t_no4 h106 | exact t_no3 h97 | exact t_no2 h88 | exact t_no1 h79)] at ihi; exact ihi)
          · refine tm_iload_3 83 rfl dX10_trade_82 ?_
            refine tm_iload_5 85 rfl dX10_trade_83 ?_
            refine tm_callS_I (c_X10_is (c := σ.2.1) (k := a + j) (by omega) (by omega)) ms_X10_is ml_X10_97 rfl rfl (Nat.le_of_ble_eq_true rfl) 88 rfl dX10_trade_85 ?_
            refine tm_if_eqB 163 91 rfl rfl dX10_trade_88 (fun h88 => ?_) (fun h88 => ?_)
            · refine tm_iinc_7 (nI (k + (i + 1))) (iinc1 (k + i)) (by decide) rfl 166 rfl dX10_trade_163 ?_
              refine tm_goto 64 rfl dX10_trade_166 ?_
              first
                | (have z : tdB a (a + j) k (k + i) = true := h120; rw [show lY σ.2.1 a (a + j) k (lX σ.2.1 (2 ^ σ.1) a (a + j) (lB σ.2.1 (2 ^ σ.1) a (lZ σ.2.1 (2 ^ σ.1) (0, r) a) j) k) (i + 1) = _ from if_pos (t_yes h79 h88 h97 h106 z)] at ihi; exact ihi)
                | (rw [show lY σ.2.1 a (a + j) k (lX σ.2.1 (2 ^ σ.1) a (a + j) (lB σ.2.1 (2 ^ σ.1) a (lZ σ.2.1 (2 ^ σ.1) (0, r) a) j) k) (i + 1) = (lY σ.2.1 a (a + j) k (lX σ.2.1 (2 ^ σ.1) a (a + j) (lB σ.2.1 (2 ^ σ.1) a (lZ σ.2.1 (2 ^ σ.1) (0, r) a) j) k) i) from st_no (by first | exact t_no5 h120 | exact t_no4 h106 | exact t_no3 h97 | exact t_no2 h88 | exact t_no1 h79)] at ihi; exact ihi)
            · refine tm_iload_3 92 rfl dX10_trade_91 ?_
              refine tm_iload_6 94 rfl dX10_trade_92 ?_
              refine tm_callS_I (c_X10_is (c := σ.2.1) (k := k) (by omega) (by omega)) ms_X10_is ml_X10_97 rfl rfl (Nat.le_of_ble_eq_true rfl) 97 rfl dX10_trade_94 ?_
              refine tm_if_neB 163 100 rfl rfl dX10_trade_97 (fun h97 => ?_) (fun h97 => ?_)
              · refine tm_iinc_7 (nI (k + (i + 1))) (iinc1 (k + i)) (by decide) rfl 166 rfl dX10_trade_163 ?_
                refine tm_goto 64 rfl dX10_trade_166 ?_
                first
                  | (have z : tdB a (a + j) k (k + i) = true := h120; rw [show lY σ.2.1 a (a + j) k (lX σ.2.1 (2 ^ σ.1) a (a + j) (lB σ.2.1 (2 ^ σ.1) a (lZ σ.2.1 (2 ^ σ.1) (0, r) a) j) k) (i + 1) = _ from if_pos (t_yes h79 h88 h97 h106 z)] at ihi; exact ihi)
                  | (rw [show lY σ.2.1 a (a + j) k (lX σ.2.1 (2 ^ σ.1) a (a + j) (lB σ.2.1 (2 ^ σ.1) a (lZ σ.2.1 (2 ^ σ.1) (0, r) a) j) k) (i + 1) = (lY σ.2.1 a (a + j) k (lX σ.2.1 (2 ^ σ.1) a (a + j) (lB σ.2.1 (2 ^ σ.1) a (lZ σ.2.1 (2 ^ σ.1) (0, r) a) j) k) i) from st_no (by first | exact t_no5 h120 | exact t_no4 h106 | exact t_no3 h97 | exact t_no2 h88 | exact t_no1 h79)] at ihi; exact ihi)
              · refine tm_iload_3 101 rfl dX10_trade_100 ?_
                refine tm_iload_7 103 rfl dX10_trade_101 ?_
                refine tm_callS_I (c_X10_is (c := σ.2.1) (k := k + i) (by omega) (by omega)) ms_X10_is ml_X10_97 rfl rfl (Nat.le_of_ble_eq_true rfl) 106 rfl dX10_trade_103 ?_
                refine tm_if_neB 163 109 rfl rfl dX10_trade_106 (fun h106 => ?_) (fun h106 => ?_)
                · refine tm_iinc_7 (nI (k + (i + 1))) (iinc1 (k + i)) (by decide) rfl 166 rfl dX10_trade_163 ?_
                  refine tm_goto 64 rfl dX10_trade_166 ?_
                  first
                    | (have z : tdB a (a + j) k (k + i) = true := h120; rw [show lY σ.2.1 a (a + j) k (lX σ.2.1 (2 ^ σ.1) a (a + j) (lB σ.2.1 (2 ^ σ.1) a (lZ σ.2.1 (2 ^ σ.1) (0, r) a) j) k) (i + 1) = _ from if_pos (t_yes h79 h88 h97 h106 z)] at ihi; exact ihi)
                    | (rw [show lY σ.2.1 a (a + j) k (lX σ.2.1 (2 ^ σ.1) a (a + j) (lB σ.2.1 (2 ^ σ.1) a (lZ σ.2.1 (2 ^ σ.1) (0, r) a) j) k) (i + 1) = (lY σ.2.1 a (a + j) k (lX σ.2.1 (2 ^ σ.1) a (a + j) (lB σ.2.1 (2 ^ σ.1) a (lZ σ.2.1 (2 ^ σ.1) (0, r) a) j) k) i) from st_no (by first | exact t_no5 h120 | exact t_no4 h106 | exact t_no3 h97 | exact t_no2 h88 | exact t_no1 h79)] at ihi; exact ihi)
                · refine tm_iload_4 111 rfl dX10_trade_109 ?_
                  refine tm_iload_5 113 rfl dX10_trade_111 ?_
                  refine tm_iload_6 115 rfl dX10_trade_113 ?_
                  refine tm_iload_7 117 rfl dX10_trade_115 ?_
                  refine tm_callS_I (c_X10_isTrade (a := a) (b := a + j) (x := k) (y := k + i) (by omega) (by omega) (by omega) (by omega)) ms_X10_isTrade ml_X10_158 rfl rfl (Nat.le_of_ble_eq_true rfl) 120 rfl dX10_trade_117 ?_
                  refine tm_if_eqB 163 123 rfl rfl dX10_trade_120 (fun h120 => ?_) (fun h120 => ?_)
                  · refine tm_iinc_7 (nI (k + (i + 1))) (iinc1 (k + i)) (by decide) rfl 166 rfl dX10_trade_163 ?_
                    refine tm_goto 64 rfl dX10_trade_166 ?_
                    first
                      | (have z : tdB a (a + j) k (k + i) = true := h120; rw [show lY σ.2.1 a (a + j) k (lX σ.2.1 (2 ^ σ.1) a (a + j) (lB σ.2.1 (2 ^ σ.1) a (lZ σ.2.1 (2 ^ σ.1) (0, r) a) j) k) (i + 1) = _ from if_pos (t_yes h79 h88 h97 h106 z)] at ihi; exact ihi)
                      | (rw [show lY σ.2.1 a (a + j) k (lX σ.2.1 (2 ^ σ.1) a (a + j) (lB σ.2.1 (2 ^ σ.1) a (lZ σ.2.1 (2 ^ σ.1) (0, r) a) j) k) (i + 1) = (lY σ.2.1 a (a + j) k (lX σ.2.1 (2 ^ σ.1) a (a + j) (lB σ.2.1 (2 ^ σ.1) a (lZ σ.2.1 (2 ^ σ.1) (0, r) a) j) k) i) from st_no (by first | exact t_no5 h120 | exact t_no4 h106 | exact t_no3 h97 | exact t_no2 h88 | exact t_no1 h79)] at ihi; exact ihi)
                  · refine tm_iload_1 124 rfl dX10_trade_123 ?_
                    refine tm_if_le_t 160 (by decide) rfl dX10_trade_124 ?_
                    refine tm_iinc_2 (nI ((lY σ.2.1 a (a + j) k (lX σ.2.1 (2 ^ σ.1) a (a + j) (lB σ.2.1 (2 ^ σ.1) a (lZ σ.2.1 (2 ^ σ.1) (0, r) a) j) k) i).1 + 1)) (iinc1 _) (by decide) rfl 163 rfl dX10_trade_160 ?_
                    refine tm_iinc_7 (nI (k + (i + 1))) (iinc1 (k + i)) (by decide) rfl 166 rfl dX10_trade_163 ?_
                    refine tm_goto 64 rfl dX10_trade_166 ?_
                    first
                      | (have z : tdB a (a + j) k (k + i) = true := h120; rw [show lY σ.2.1 a (a + j) k (lX σ.2.1 (2 ^ σ.1) a (a + j) (lB σ.2.1 (2 ^ σ.1) a (lZ σ.2.1 (2 ^ σ.1) (0, r) a) j) k) (i + 1) = _ from if_pos (t_yes h79 h88 h97 h106 z)] at ihi; exact ihi)
                      | (rw [show lY σ.2.1 a (a + j) k (lX σ.2.1 (2 ^ σ.1) a (a + j) (lB σ.2.1 (2 ^ σ.1) a (lZ σ.2.1 (2 ^ σ.1) (0, r) a) j) k) (i + 1) = (lY σ.2.1 a (a + j) k (lX σ.2.1 (2 ^ σ.1) a (a + j) (lB σ.2.1 (2 ^ σ.1) a (lZ σ.2.1 (2 ^ σ.1) (0, r) a) j) k) i) from st_no (by first | exact t_no5 h120 | exact t_no4 h106 | exact t_no3 h97 | exact t_no2 h88 | exact t_no1 h79)] at ihi; exact ihi)
        · refine tm_iload_7 66 rfl dX10_trade_64 ?_
          refine tm_aload_0 67 rfl dX10_trade_66 ?_
          refine tm_callV_I (ci := 9) (c_X10_lots hn h4) mv_X10_lots ml_X10_56 rfl rfl rfl rfl rfl (Nat.le_of_ble_eq_true rfl) 70 rfl dX10_trade_67 ?_
          refine tm_icmp_ge_t 169 (nI_le (by omega) (by omega)) rfl dX10_trade_70 ?_
          refine tm_iinc_6 (nI (k + 1)) (iinc1 k) (by decide) rfl 172 rfl dX10_trade_169 ?_
          refine tm_goto 51 rfl dX10_trade_172 ?_
          exact tm_wkr ihk (And.intro rfl (And.intro rfl (And.intro rfl (And.intro rfl (And.intro rfl (And.intro rfl (And.intro rfl trivial)))))))
      · refine tm_iload_6 53 rfl dX10_trade_51 ?_
        refine tm_aload_0 54 rfl dX10_trade_53 ?_
        refine tm_callV_I (ci := 9) (c_X10_lots hn h4) mv_X10_lots ml_X10_56 rfl rfl rfl rfl rfl (Nat.le_of_ble_eq_true rfl) 57 rfl dX10_trade_54 ?_
        refine tm_icmp_ge_t 175 (nI_le (by omega) (by omega)) rfl dX10_trade_57 ?_
        refine tm_iinc_5 (nI (a + (j + 1))) (iinc1 (a + j)) (by decide) rfl 178 rfl dX10_trade_175 ?_
        refine tm_goto 39 rfl dX10_trade_178 ?_
        exact tm_wkr ihj (And.intro rfl (And.intro rfl (And.intro rfl (And.intro rfl (And.intro rfl (And.intro rfl trivial))))))
    · refine tm_iload_5 41 rfl dX10_trade_39 ?_
      refine tm_aload_0 42 rfl dX10_trade_41 ?_
      refine tm_callV_I (ci := 9) (c_X10_lots hn h4) mv_X10_lots ml_X10_56 rfl rfl rfl rfl rfl (Nat.le_of_ble_eq_true rfl) 45 rfl dX10_trade_42 ?_
      refine tm_icmp_ge_t 181 (nI_le (by omega) (by omega)) rfl dX10_trade_45 ?_
      refine tm_iinc_4 (nI (a + 1)) (iinc1 a) (by decide) rfl 184 rfl dX10_trade_181 ?_
      refine tm_goto 26 rfl dX10_trade_184 ?_
      exact tm_wkr iha (And.intro rfl (And.intro rfl (And.intro rfl (And.intro rfl (And.intro rfl trivial)))))
  · refine tm_iload_4 28 rfl dX10_trade_26 ?_
    refine tm_aload_0 29 rfl dX10_trade_28 ?_
    refine tm_callV_I (ci := 9) (c_X10_lots hn h4) mv_X10_lots ml_X10_56 rfl rfl rfl rfl rfl (Nat.le_of_ble_eq_true rfl) 32 rfl dX10_trade_29 ?_
    refine tm_icmp_ge_t 187 (nI_le (Nat.le_refl _) (by omega)) rfl dX10_trade_32 ?_
    refine tm_iload_1 188 rfl dX10_trade_187 ?_
    refine tm_if_ne_f 191 (rfl) rfl rfl dX10_trade_188 ?_
    refine tm_iload_2 192 rfl dX10_trade_191 ?_
    refine tm_goto 197 rfl dX10_trade_192 ?_
    exact tm_iret (tr_2 rfl rfl).symm rfl rfl dX10_trade_197

theorem tr_5 {σ : AS} {r : Nat → Int32} {x : Int32} {a b p q : Nat} (h : inN x 5 = true) (h0 : ¬ x = 0) (hf : ¬ (lZ σ.2.1 (2 ^ σ.1) (0, r) (2 ^ σ.1)).1 = 0 ∧ (lZ σ.2.1 (2 ^ σ.1) (0, r) (2 ^ σ.1)).2 0 = nI a ∧ (lZ σ.2.1 (2 ^ σ.1) (0, r) (2 ^ σ.1)).2 1 = nI b ∧ (lZ σ.2.1 (2 ^ σ.1) (0, r) (2 ^ σ.1)).2 2 = nI p ∧ (lZ σ.2.1 (2 ^ σ.1) (0, r) (2 ^ σ.1)).2 3 = nI q) :
    (x = 1 → nI a = ansTr σ r x) ∧ (x = 2 → nI b = ansTr σ r x) ∧ (x = 3 → nI p = ansTr σ r x) ∧ (¬ x = 1 → ¬ x = 2 → ¬ x = 3 → nI q = ansTr σ r x) := by
  rw [tr_4 h h0 hf.1]
  refine ⟨fun e => ?_, fun e => ?_, fun e => ?_, fun e1 e2 e3 => ?_⟩
  · subst e; exact hf.2.1.symm
  · subst e; exact hf.2.2.1.symm
  · subst e; exact hf.2.2.2.1.symm
  · obtain ⟨k, hk, rfl⟩ := inN_of h
    rcases (show k = 0 ∨ k = 1 ∨ k = 2 ∨ k = 3 ∨ k = 4 by omega) with rfl | rfl | rfl | rfl | rfl
    · exact absurd rfl h0
    · exact absurd rfl e1
    · exact absurd rfl e2
    · exact absurd rfl e3
    · exact hf.2.2.2.2.symm
set_option maxRecDepth 100000 in
set_option maxHeartbeats 4000000 in
theorem c_X10_trade_y {g : GC} {d : Nat} {M : MI} {L : ML} {σ : AS} (hM : hasM M σ) (hσ : okS σ) (r : Nat → Int32) {x : Int32} (h5 : inN x 5 = true) (h0 : ¬ x = 0) : CfI g (d + 2) yX10_trade cX10_trade 8 .int [rf g 54, .int x] M L (ansTr σ r x) (M) (L) := by
  have hn := hM.1
  have h4 := hσ.2.1
  have h16 := pow4 h4
  have hp1 := Nat.two_pow_pos σ.1
  have hc := okp hσ
  have hx0 : ¬ x ≤ 0 := by
    obtain ⟨k, hk, e⟩ := inN_of h5
    rw [e] at h0 ⊢
    exact fun q => h0 (by rw [fa_le, nI_toInt (by omega)] at q; have e0 : (0 : Int32).toInt = 0 := rfl; rw [show k = 0 by omega]; rfl)
  refine cfI_of (own := RX10) (l := [some (rf g 54), some (.int x), none, none, none, none, none, none]) 6 rfl rfl rfl (Nat.le_of_ble_eq_true rfl) ?_
  refine tm_iload_1 1 rfl dX10_trade_0 ?_
  refine tm_i2l 2 rfl dX10_trade_1 ?_
  refine tm_lconst 0 rfl 3 rfl dX10_trade_2 ?_
  refine tm_ldc2 kl_X10_66 6 rfl dX10_trade_3 ?_
  refine tm_callS_I (c_X10_in) ms_X10_in ml_X10_60 rfl rfl (Nat.le_of_ble_eq_true rfl) 9 rfl dX10_trade_6 ?_
  refine tm_if_ne_t 14 (by rw [btw_in (N := 5) (by decide), h5]; decide) rfl dX10_trade_9 ?_
  refine tm_iconst (0) rfl 15 rfl dX10_trade_14 ?_
  refine tm_istore_2 (by decide) rfl 16 rfl dX10_trade_15 ?_
  refine tm_aload_0 17 rfl dX10_trade_16 ?_
  refine tm_getr fl_X10_11 rfl rfl 20 rfl dX10_trade_17 ?_
  refine tm_iconst (1) rfl 21 rfl dX10_trade_20 ?_
  refine tm_ald rfl (ix := 1) ⟨by decide, by decide, by decide⟩ 22 rfl dX10_trade_21 ?_
  rw [hM.2.1]
  refine tm_istore_3 (by decide) rfl 23 rfl dX10_trade_22 ?_
  refine tm_iconst (0) rfl 24 rfl dX10_trade_23 ?_
  refine tm_istore_4 (by decide) rfl 26 rfl dX10_trade_24 ?_
  refine tm_loopE (N := (2 ^ σ.1)) (fun a => (lZ σ.2.1 (2 ^ σ.1) (0, r) a).1 = 0) (fun a => Tm g (d + 2) RX10 cX10_trade 8 (some .int) (QI g (ansTr σ r x) (M) (L)) 26 [some (rf g 54), some (.int x), some (.int 0), some (.int (nI σ.2.1)), some (.int (nI a)), none, none, none] [] (M) (L)) (rfl) (fun a ha hPa iha => ?_) (fun hPaN => ?_)
  · refine tm_iload_4 28 rfl dX10_trade_26 ?_
    refine tm_aload_0 29 rfl dX10_trade_28 ?_
    refine tm_callV_I (ci := 9) (c_X10_lots hn h4) mv_X10_lots ml_X10_56 rfl rfl rfl rfl rfl (Nat.le_of_ble_eq_true rfl) 32 rfl dX10_trade_29 ?_
    refine tm_icmp_ge_f 35 (nI_ge ha (by omega)) rfl rfl dX10_trade_32 ?_
    refine tm_iload_4 37 rfl dX10_trade_35 ?_
    refine tm_istore_5 (by decide) rfl 39 rfl dX10_trade_37 ?_
    refine tm_loopE (N := (2 ^ σ.1) - a) (fun j => (lB σ.2.1 (2 ^ σ.1) a (lZ σ.2.1 (2 ^ σ.1) (0, r) a) j).1 = 0) (fun j => Tm g (d + 2) RX10 cX10_trade 8 (some .int) (QI g (ansTr σ r x) (M) (L)) 39 [some (rf g 54), some (.int x), some (.int 0), some (.int (nI σ.2.1)), some (.int (nI a)), some (.int (nI (a + j))), none, none] [] (M) (L)) (hPa) (fun j hj hPj ihj => ?_) (fun hPjN => ?_)
    · refine tm_iload_5 41 rfl dX10_trade_39 ?_
      refine tm_aload_0 42 rfl dX10_trade_41 ?_
      refine tm_callV_I (ci := 9) (c_X10_lots hn h4) mv_X10_lots ml_X10_56 rfl rfl rfl rfl rfl (Nat.le_of_ble_eq_true rfl) 45 rfl dX10_trade_42 ?_
      refine tm_icmp_ge_f 48 (nI_ge (by omega) (by omega)) rfl rfl dX10_trade_45 ?_
      refine tm_iconst (0) rfl 49 rfl dX10_trade_48 ?_
      refine tm_istore_6 (by decide) rfl 51 rfl dX10_trade_49 ?_
      refine tm_loopE (N := (2 ^ σ.1)) (fun k => (lX σ.2.1 (2 ^ σ.1) a (a + j) (lB σ.2.1 (2 ^ σ.1) a (lZ σ.2.1 (2 ^ σ.1) (0, r) a) j) k).1 = 0) (fun k => Tm g (d + 2) RX10 cX10_trade 8 (some .int) (QI g (ansTr σ r x) (M) (L)) 51 [some (rf g 54), some (.int x), some (.int 0), some (.int (nI σ.2.1)), some (.int (nI a)), some (.int (nI (a + j))), some (.int (nI k)), none] [] (M) (L)) (hPj) (fun k hk hPk ihk => ?_) (fun hPkN => ?_)
      · refine tm_iload_6 53 rfl dX10_trade_51 ?_
        refine tm_aload_0 54 rfl dX10_trade_53 ?_
        refine tm_callV_I (ci := 9) (c_X10_lots hn h4) mv_X10_lots ml_X10_56 rfl rfl rfl rfl rfl (Nat.le_of_ble_eq_true rfl) 57 rfl dX10_trade_54 ?_
        refine tm_icmp_ge_f 60 (nI_ge (by omega) (by omega)) rfl rfl dX10_trade_57 ?_
        refine tm_iload_6 62 rfl dX10_trade_60 ?_
        refine tm_istore_7 (by decide) rfl 64 rfl dX10_trade_62 ?_
        refine tm_loopE (N := (2 ^ σ.1) - k) (fun i => (lY σ.2.1 a (a + j) k (lX σ.2.1 (2 ^ σ.1) a (a + j) (lB σ.2.1 (2 ^ σ.1) a (lZ σ.2.1 (2 ^ σ.1) (0, r) a) j) k) i).1 = 0) (fun i => Tm g (d + 2) RX10 cX10_trade 8 (some .int) (QI g (ansTr σ r x) (M) (L)) 64 [some (rf g 54), some (.int x), some (.int 0), some (.int (nI σ.2.1)), some (.int (nI a)), some (.int (nI (a + j))), some (.int (nI k)), some (.int (nI (k + i)))] [] (M) (L)) (hPk) (fun i hi hPi ihi => ?_) (fun hPiN => ?_)
        · refine tm_iload_7 66 rfl dX10_trade_64 ?_
          refine tm_aload_0 67 rfl dX10_trade_66 ?_
          refine tm_callV_I (ci := 9) (c_X10_lots hn h4) mv_X10_lots ml_X10_56 rfl rfl rfl rfl rfl (Nat.le_of_ble_eq_true rfl) 70 rfl dX10_trade_67 ?_
          refine tm_icmp_ge_f 73 (nI_ge (by omega) (by omega)) rfl rfl dX10_trade_70 ?_
          refine tm_iload_3 74 rfl dX10_trade_73 ?_
          refine tm_iload_4 76 rfl dX10_trade_74 ?_
          refine tm_callS_I (c_X10_is (c := σ.2.1) (k := a) (by omega) (by omega)) ms_X10_is ml_X10_97 rfl rfl (Nat.le_of_ble_eq_true rfl) 79 rfl dX10_trade_76 ?_
          refine tm_if_eqB 163 82 rfl rfl dX10_trade_79 (fun h79 => ?_) (fun h79 => ?_)
          · refine tm_iinc_7 (nI (k + (i + 1))) (iinc1 (k + i)) (by decide) rfl 166 rfl dX10_trade_163 ?_
            refine tm_goto 64 rfl dX10_trade_166 ?_
            exact ihi (by rw [show lY σ.2.1 a (a + j) k (lX σ.2.1 (2 ^ σ.1) a (a + j) (lB σ.2.1 (2 ^ σ.1) a (lZ σ.2.1 (2 ^ σ.1) (0, r) a) j) k) (i + 1) = (lY σ.2.1 a (a + j) k (lX σ.2.1 (2 ^ σ.1) a (a + j) (lB σ.2.1 (2 ^ σ.1) a (lZ σ.2.1 (2 ^ σ.1) (0, r) a) j) k) i) from st_no (by first | exact t_no5 h120 | exact t_no4 h106 | exact t_no3 h97 | exact t_no2 h88 | exact t_no1 h79)]; exact hPi)
          · refine tm_iload_3 83 rfl dX10_trade_82 ?_
            refine tm_iload_5 85 rfl dX10_trade_83 ?_
            refine tm_callS_I (c_X10_is (c := σ.2.1) (k := a + j) (by omega) (by omega)) ms_X10_is ml_X10_97 rfl rfl (Nat.le_of_ble_eq_true rfl) 88 rfl dX10_trade_85 ?_
            refine tm_if_eqB 163 91 rfl rfl dX10_trade_88 (fun h88 => ?_) (fun h88 => ?_)
            · refine tm_iinc_7 (nI (k + (i + 1))) (iinc1 (k + i)) (by decide) rfl 166 rfl dX10_trade_163 ?_
              refine tm_goto 64 rfl dX10_trade_166 ?_
              exact ihi (by rw [show lY σ.2.1 a (a + j) k (lX σ.2.1 (2 ^ σ.1) a (a + j) (lB σ.2.1 (2 ^ σ.1) a (lZ σ.2.1 (2 ^ σ.1) (0, r) a) j) k) (i + 1) = (lY σ.2.1 a (a + j) k (lX σ.2.1 (2 ^ σ.1) a (a + j) (lB σ.2.1 (2 ^ σ.1) a (lZ σ.2.1 (2 ^ σ.1) (0, r) a) j) k) i) from st_no (by first | exact t_no5 h120 | exact t_no4 h106 | exact t_no3 h97 | exact t_no2 h88 | exact t_no1 h79)]; exact hPi)
            · refine tm_iload_3 92 rfl dX10_trade_91 ?_
              refine tm_iload_6 94 rfl dX10_trade_92 ?_
              refine tm_callS_I (c_X10_is (c := σ.2.1) (k := k) (by omega) (by omega)) ms_X10_is ml_X10_97 rfl rfl (Nat.le_of_ble_eq_true rfl) 97 rfl dX10_trade_94 ?_
              refine tm_if_neB 163 100 rfl rfl dX10_trade_97 (fun h97 => ?_) (fun h97 => ?_)
              · refine tm_iinc_7 (nI (k + (i + 1))) (iinc1 (k + i)) (by decide) rfl 166 rfl dX10_trade_163 ?_
                refine tm_goto 64 rfl dX10_trade_166 ?_
                exact ihi (by rw [show lY σ.2.1 a (a + j) k (lX σ.2.1 (2 ^ σ.1) a (a + j) (lB σ.2.1 (2 ^ σ.1) a (lZ σ.2.1 (2 ^ σ.1) (0, r) a) j) k) (i + 1) = (lY σ.2.1 a (a + j) k (lX σ.2.1 (2 ^ σ.1) a (a + j) (lB σ.2.1 (2 ^ σ.1) a (lZ σ.2.1 (2 ^ σ.1) (0, r) a) j) k) i) from st_no (by first | exact t_no5 h120 | exact t_no4 h106 | exact t_no3 h97 | exact t_no2 h88 | exact t_no1 h79)]; exact hPi)
              · refine tm_iload_3 101 rfl dX10_trade_100 ?_
                refine tm_iload_7 103 rfl dX10_trade_101 ?_
                refine tm_callS_I (c_X10_is (c := σ.2.1) (k := k + i) (by omega) (by omega)) ms_X10_is ml_X10_97 rfl rfl (Nat.le_of_ble_eq_true rfl) 106 rfl dX10_trade_103 ?_
                refine tm_if_neB 163 109 rfl rfl dX10_trade_106 (fun h106 => ?_) (fun h106 => ?_)
                · refine tm_iinc_7 (nI (k + (i + 1))) (iinc1 (k + i)) (by decide) rfl 166 rfl dX10_trade_163 ?_
                  refine tm_goto 64 rfl dX10_trade_166 ?_
                  exact ihi (by rw [show lY σ.2.1 a (a + j) k (lX σ.2.1 (2 ^ σ.1) a (a + j) (lB σ.2.1 (2 ^ σ.1) a (lZ σ.2.1 (2 ^ σ.1) (0, r) a) j) k) (i + 1) = (lY σ.2.1 a (a + j) k (lX σ.2.1 (2 ^ σ.1) a (a + j) (lB σ.2.1 (2 ^ σ.1) a (lZ σ.2.1 (2 ^ σ.1) (0, r) a) j) k) i) from st_no (by first | exact t_no5 h120 | exact t_no4 h106 | exact t_no3 h97 | exact t_no2 h88 | exact t_no1 h79)]; exact hPi)
                · refine tm_iload_4 111 rfl dX10_trade_109 ?_
                  refine tm_iload_5 113 rfl dX10_trade_111 ?_
                  refine tm_iload_6 115 rfl dX10_trade_113 ?_
                  refine tm_iload_7 117 rfl dX10_trade_115 ?_
                  refine tm_callS_I (c_X10_isTrade (a := a) (b := a + j) (x := k) (y := k + i) (by omega) (by omega) (by omega) (by omega)) ms_X10_isTrade ml_X10_158 rfl rfl (Nat.le_of_ble_eq_true rfl) 120 rfl dX10_trade_117 ?_
                  refine tm_if_eqB 163 123 rfl rfl dX10_trade_120 (fun h120 => ?_) (fun h120 => ?_)
                  · refine tm_iinc_7 (nI (k + (i + 1))) (iinc1 (k + i)) (by decide) rfl 166 rfl dX10_trade_163 ?_
                    refine tm_goto 64 rfl dX10_trade_166 ?_
                    exact ihi (by rw [show lY σ.2.1 a (a + j) k (lX σ.2.1 (2 ^ σ.1) a (a + j) (lB σ.2.1 (2 ^ σ.1) a (lZ σ.2.1 (2 ^ σ.1) (0, r) a) j) k) (i + 1) = (lY σ.2.1 a (a + j) k (lX σ.2.1 (2 ^ σ.1) a (a + j) (lB σ.2.1 (2 ^ σ.1) a (lZ σ.2.1 (2 ^ σ.1) (0, r) a) j) k) i) from st_no (by first | exact t_no5 h120 | exact t_no4 h106 | exact t_no3 h97 | exact t_no2 h88 | exact t_no1 h79)]; exact hPi)
                  · refine tm_iload_1 124 rfl dX10_trade_123 ?_
                    refine tm_if_le_f 127 (hx0) rfl rfl dX10_trade_124 ?_
                    have hfd := tr_5 h5 h0 (tr_found ha hj hk hi hPi (t_yes h79 h88 h97 h106 h120))
                    refine tm_iload_1 128 rfl dX10_trade_127 ?_
                    refine tm_iconst (1) rfl 129 rfl dX10_trade_128 ?_
                    refine tm_icmp_ne 137 132 rfl rfl dX10_trade_129 (fun h129 => ?_) (fun h129 => ?_)
                    · refine tm_iload_1 138 rfl dX10_trade_137 ?_
                      refine tm_iconst (2) rfl 139 rfl dX10_trade_138 ?_
                      refine tm_icmp_ne 147 142 rfl rfl dX10_trade_139 (fun h139 => ?_) (fun h139 => ?_)
                      · refine tm_iload_1 148 rfl dX10_trade_147 ?_
                        refine tm_iconst (3) rfl 149 rfl dX10_trade_148 ?_
                        refine tm_icmp_ne 157 152 rfl rfl dX10_trade_149 (fun h149 => ?_) (fun h149 => ?_)
                        · refine tm_iload_7 159 rfl dX10_trade_157 ?_
                          exact tm_iret (by first | exact hfd.1 h129 | exact hfd.2.1 h139 | exact hfd.2.2.1 h149 | exact hfd.2.2.2 h129 h139 h149) rfl rfl dX10_trade_159
                        · refine tm_iload_6 154 rfl dX10_trade_152 ?_
                          refine tm_goto 159 rfl dX10_trade_154 ?_
                          exact tm_iret (by first | exact hfd.1 h129 | exact hfd.2.1 h139 | exact hfd.2.2.1 h149 | exact hfd.2.2.2 h129 h139 h149) rfl rfl dX10_trade_159
                      · refine tm_iload_5 144 rfl dX10_trade_142 ?_
                        refine tm_goto 159 rfl dX10_trade_144 ?_
                        exact tm_iret (by first | exact hfd.1 h129 | exact hfd.2.1 h139 | exact hfd.2.2.1 h149 | exact hfd.2.2.2 h129 h139 h149) rfl rfl dX10_trade_159
                    · refine tm_iload_4 134 rfl dX10_trade_132 ?_
                      refine tm_goto 159 rfl dX10_trade_134 ?_
                      exact tm_iret (by first | exact hfd.1 h129 | exact hfd.2.1 h139 | exact hfd.2.2.1 h149 | exact hfd.2.2.2 h129 h139 h149) rfl rfl dX10_trade_159
        · refine tm_iload_7 66 rfl dX10_trade_64 ?_
          refine tm_aload_0 67 rfl dX10_trade_66 ?_
          refine tm_callV_I (ci := 9) (c_X10_lots hn h4) mv_X10_lots ml_X10_56 rfl rfl rfl rfl rfl (Nat.le_of_ble_eq_true rfl) 70 rfl dX10_trade_67 ?_
          refine tm_icmp_ge_t 169 (nI_le (by omega) (by omega)) rfl dX10_trade_70 ?_
          refine tm_iinc_6 (nI (k + 1)) (iinc1 k) (by decide) rfl 172 rfl dX10_trade_169 ?_
          refine tm_goto 51 rfl dX10_trade_172 ?_
          exact tm_wkr (ihk hPiN) (And.intro rfl (And.intro rfl (And.intro rfl (And.intro rfl (And.intro rfl (And.intro rfl (And.intro rfl trivial)))))))
      · refine tm_iload_6 53 rfl dX10_trade_51 ?_
        refine tm_aload_0 54 rfl dX10_trade_53 ?_
        refine tm_callV_I (ci := 9) (c_X10_lots hn h4) mv_X10_lots ml_X10_56 rfl rfl rfl rfl rfl (Nat.le_of_ble_eq_true rfl) 57 rfl dX10_trade_54 ?_
        refine tm_icmp_ge_t 175 (nI_le (by omega) (by omega)) rfl dX10_trade_57 ?_
        refine tm_iinc_5 (nI (a + (j + 1))) (iinc1 (a + j)) (by decide) rfl 178 rfl dX10_trade_175 ?_
        refine tm_goto 39 rfl dX10_trade_178 ?_
        exact tm_wkr (ihj hPkN) (And.intro rfl (And.intro rfl (And.intro rfl (And.intro rfl (And.intro rfl (And.intro rfl trivial))))))
    · refine tm_iload_5 41 rfl dX10_trade_39 ?_
      refine tm_aload_0 42 rfl dX10_trade_41 ?_
      refine tm_callV_I (ci := 9) (c_X10_lots hn h4) mv_X10_lots ml_X10_56 rfl rfl rfl rfl rfl (Nat.le_of_ble_eq_true rfl) 45 rfl dX10_trade_42 ?_
      refine tm_icmp_ge_t 181 (nI_le (by omega) (by omega)) rfl dX10_trade_45 ?_
      refine tm_iinc_4 (nI (a + 1)) (iinc1 a) (by decide) rfl 184 rfl dX10_trade_181 ?_
      refine tm_goto 26 rfl dX10_trade_184 ?_
      exact tm_wkr (iha hPjN) (And.intro rfl (And.intro rfl (And.intro rfl (And.intro rfl (And.intro rfl trivial)))))
  · refine tm_iload_4 28 rfl dX10_trade_26 ?_
    refine tm_aload_0 29 rfl dX10_trade_28 ?_
    refine tm_callV_I (ci := 9) (c_X10_lots hn h4) mv_X10_lots ml_X10_56 rfl rfl rfl rfl rfl (Nat.le_of_ble_eq_true rfl) 32 rfl dX10_trade_29 ?_
    refine tm_icmp_ge_t 187 (nI_le (Nat.le_refl _) (by omega)) rfl dX10_trade_32 ?_
    refine tm_iload_1 188 rfl dX10_trade_187 ?_
    refine tm_if_ne_t 195 (h0) rfl dX10_trade_188 ?_
    refine tm_bipush (-5) (by decide) 197 rfl dX10_trade_195 ?_
    exact tm_iret (tr_3 h5 h0 hPaN).symm rfl rfl dX10_trade_197

set_option maxRecDepth 100000 in
set_option maxHeartbeats 4000000 in
theorem c_X10_trade_no {g : GC} {d : Nat} {M : MI} {L : ML} {x : Int32} (h : inN x 5 = false) {r : Nat → Int32} {σ : AS} : CfI g (d + 2) yX10_trade cX10_trade 8 .int [rf g 54, .int x] M L (ansTr σ r x) (M) (L) := by
  refine cfI_of (own := RX10) (l := [some (rf g 54), some (.int x), none, none, none, none, none, none]) 6 rfl rfl rfl (Nat.le_of_ble_eq_true rfl) ?_
  refine tm_iload_1 1 rfl dX10_trade_0 ?_
  refine tm_i2l 2 rfl dX10_trade_1 ?_
  refine tm_lconst 0 rfl 3 rfl dX10_trade_2 ?_
  refine tm_ldc2 kl_X10_66 6 rfl dX10_trade_3 ?_
  refine tm_callS_I (c_X10_in) ms_X10_in ml_X10_60 rfl rfl (Nat.le_of_ble_eq_true rfl) 9 rfl dX10_trade_6 ?_
  rw [btw_in (N := 5) (by decide)]
  refine tm_if_ne_f 12 ((bI_0 _).mpr h) rfl rfl dX10_trade_9 ?_
  refine tm_iconst (-1) rfl 13 rfl dX10_trade_12 ?_
  exact tm_iret (tr_1 h).symm rfl rfl dX10_trade_13

theorem c_X10_trade {g : GC} {d : Nat} {M : MI} {L : ML} {σ : AS} (hM : hasM M σ) (hσ : okS σ) (r : Nat → Int32) {x : Int32} : CfI g (d + 2) yX10_trade cX10_trade 8 .int [rf g 54, .int x] M L (ansTr σ r x) (M) (L) := by
  cases h : inN x 5
  · exact c_X10_trade_no h
  · by_cases h0 : x = 0
    · subst h0; exact c_X10_trade_0 hM hσ r
    · exact c_X10_trade_y hM hσ r h h0

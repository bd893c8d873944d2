/-! the functions that a function can become by moves: at most 768 -/
def perms : List (List Nat) := [[0,1,2,3],[0,1,3,2],[0,2,1,3],[0,2,3,1],[0,3,1,2],[0,3,2,1],[1,0,2,3],[1,0,3,2],[1,2,0,3],[1,2,3,0],[1,3,0,2],[1,3,2,0],[2,0,1,3],[2,0,3,1],[2,1,0,3],[2,1,3,0],[2,3,0,1],[2,3,1,0],[3,0,1,2],[3,0,2,1],[3,1,0,2],[3,1,2,0],[3,2,0,1],[3,2,1,0]]
def pAt (p v : Nat) : Nat := (perms.getD p []).getD v 0
def pbit (p k v : Nat) : Nat := if k.testBit v then 2 ^ pAt p v else 0
def pL (p k : Nat) : Nat := ((pbit p k 0 ^^^ pbit p k 1) ^^^ pbit p k 2) ^^^ pbit p k 3
def nxt (p i : Nat) : Nat := (perms.findIdx (fun l => (List.range 4).all fun v => l.getD v 0 == pAt p (if v = i then i + 1 else if v = i + 1 then i else v)))
theorem nx_all : ∀ p, p < 24 → ∀ i, i < 3 → nxt p i < 24 := by decide +kernel
theorem nx_k : ∀ p, p < 24 → ∀ i, i < 3 → ∀ k, k < 16 → pL p (swp i (i + 1) k) = pL (nxt p i) k := by decide +kernel
theorem p_lt : ∀ p, p < 24 → ∀ k, k < 16 → pL p k < 16 := by decide +kernel
theorem p_x : ∀ p, p < 24 → ∀ a, a < 16 → ∀ k, k < 16 → pL p (k ^^^ a) = pL p k ^^^ pL p a := by decide +kernel
theorem p_id : ∀ k, k < 16 → pL 0 k = k := by decide +kernel
def tF (n c p m : Nat) (b : Bool) : Nat := bits (2 ^ n) (fun k => c.testBit (pL p k ^^^ m) ^^ b)
def Fam (n c e : Nat) : Prop := ∃ p m b, p < 24 ∧ m < 16 ∧ e = tF n c p m b
theorem fam_lt {n c e : Nat} (h : Fam n c e) : e < 2 ^ 2 ^ n := by
  obtain ⟨p, m, b, _, _, rfl⟩ := h
  exact bits_lt _ _
theorem fam_0 {n c : Nat} (h4 : n ≤ 4) (hc : c < 2 ^ 2 ^ n) : Fam n c c := by
  refine ⟨0, 0, false, by decide, by decide, ?_⟩
  have h16 := pow4 h4
  unfold tF
  conv => lhs; rw [← bits_self hc]
  exact bits_congr (fun k hk => by rw [p_id k (by omega), Nat.xor_zero, Bool.xor_false])
theorem fam_t {n c e v : Nat} (h4 : n ≤ 4) (hv : v < n) (h : Fam n c e) : Fam n c (tnd n e v) := by
  obtain ⟨p, m, b, hp, hm, rfl⟩ := h
  have h16 := pow4 h4
  have hv2 : 2 ^ v < 2 ^ n := Nat.pow_lt_pow_right (by omega) hv
  have hx := p_lt p hp (2 ^ v) (by omega)
  refine ⟨p, pL p (2 ^ v) ^^^ m, b, hp, Nat.xor_lt_two_pow (n := 4) hx hm, ?_⟩
  unfold tnd tF
  refine bits_congr (fun k hk => ?_)
  rw [bits_test, decide_eq_true (Nat.xor_lt_two_pow hk hv2), Bool.true_and, p_x p hp (2 ^ v) (by omega) k (by omega), Nat.xor_assoc]
theorem fam_c {n c e i : Nat} (h4 : n ≤ 4) (hi : i + 1 < n) (h : Fam n c e) : Fam n c (chN n e i (i + 1)) := by
  obtain ⟨p, m, b, hp, hm, rfl⟩ := h
  have h16 := pow4 h4
  refine ⟨nxt p i, m, b, nx_all p hp i (by omega), hm, ?_⟩
  unfold chN tF
  refine bits_congr (fun k hk => ?_)
  rw [bits_test, decide_eq_true (swp_lt hk (by omega) (by omega)), Bool.true_and, nx_k p hp i (by omega) k (by omega)]
theorem fam_d {n c e : Nat} (h4 : n ≤ 4) (h : Fam n c e) : Fam n c (dlN n e) := by
  obtain ⟨p, m, b, hp, hm, rfl⟩ := h
  have h16 := pow4 h4
  have hp1 := Nat.two_pow_pos n
  have hx := p_lt p hp (2 ^ n - 1) (by omega)
  refine ⟨p, pL p (2 ^ n - 1) ^^^ m, !b, hp, Nat.xor_lt_two_pow (n := 4) hx hm, ?_⟩
  unfold dlN tF
  refine bits_congr (fun k hk => ?_)
  rw [bits_test, decide_eq_true (by omega), Bool.true_and, ← dl_f n (by omega) k hk, p_x p hp (2 ^ n - 1) (by omega) k (by omega), Nat.xor_assoc]
  cases c.testBit (pL p k ^^^ (pL p (2 ^ n - 1) ^^^ m)) <;> cases b <;> rfl
theorem fam_o {n c e : Nat} (h : Fam n c e) : Fam n c (opN n e) := by
  obtain ⟨p, m, b, hp, hm, rfl⟩ := h
  refine ⟨p, m, !b, hp, hm, ?_⟩
  unfold opN tF
  refine bits_congr (fun k hk => ?_)
  rw [bits_test, decide_eq_true hk, Bool.true_and]
  cases c.testBit (pL p k ^^^ m) <;> cases b <;> rfl
/-- the moves, in their order -/
def mvN (n c m : Nat) : Nat := if m < n then tnd n c m else if m < 2 * n - 1 then chN n c (m - n) (m - n + 1) else if m = 2 * n - 1 then dlN n c else opN n c
theorem mv_t {n c m : Nat} (h : m < n) : mvN n c m = tnd n c m := if_pos h
theorem mv_c {n c i : Nat} (h : i + 1 < n) : mvN n c (n + i) = chN n c i (i + 1) := by unfold mvN; rw [if_neg (by omega), if_pos (by omega), show n + i - n = i by omega]
theorem mv_d {n c : Nat} (h : 2 ≤ n) : mvN n c (2 * n - 1) = dlN n c := by unfold mvN; rw [if_neg (by omega), if_neg (by omega), if_pos rfl]
theorem mv_o {n c : Nat} (h : 2 ≤ n) : mvN n c (2 * n) = opN n c := by unfold mvN; rw [if_neg (by omega), if_neg (by omega), if_neg (by omega)]
theorem mv_lt (n c m : Nat) : mvN n c m < 2 ^ 2 ^ n := by
  unfold mvN
  split
  · exact tnd_lt _ _ _
  · split
    · exact chN_lt _ _ _ _
    · split
      · exact dlN_lt _ _
      · exact opN_lt _ _
theorem fam_m {n c e : Nat} (h4 : n ≤ 4) (h : Fam n c e) (m : Nat) : Fam n c (mvN n e m) := by
  unfold mvN
  split
  · exact fam_t h4 (by omega) h
  · split
    · exact fam_c h4 (by omega) h
    · split
      · exact fam_d h4 h
      · exact fam_o h
/-- a row of functions, with the steps to them -/
abbrev BQ := Nat × (Nat → Nat) × (Nat → Nat)
def memB (q : BQ) (e : Nat) : Bool := (List.range q.1).any (fun i => decide (q.2.1 i = e))
theorem mem_iff {q : BQ} {e : Nat} : memB q e = true ↔ ∃ i, i < q.1 ∧ q.2.1 i = e := by
  unfold memB
  rw [List.any_eq_true]
  constructor
  · intro ⟨i, h1, h2⟩
    exact ⟨i, List.mem_range.mp h1, of_decide_eq_true h2⟩
  · intro ⟨i, h1, h2⟩
    exact ⟨i, List.mem_range.mpr h1, decide_eq_true h2⟩
theorem mem_no {q : BQ} {e : Nat} (h : memB q e = false) {i : Nat} (hi : i < q.1) : q.2.1 i ≠ e := fun z => by
  have := mem_iff.mpr ⟨i, hi, z⟩
  rw [h] at this
  cases this
def uN (f : Nat → Nat) (k x : Nat) : Nat → Nat := fun j => if j = k then x else f j
theorem uN_eq (f : Nat → Nat) (k x : Nat) : uN f k x k = x := if_pos rfl
theorem uN_ne {f : Nat → Nat} {k x j : Nat} (h : j ≠ k) : uN f k x j = f j := if_neg h
def mtQ (q : BQ) (e st : Nat) : BQ := if memB q e = true then q else (q.1 + 1, uN q.2.1 q.1 e, uN q.2.2 q.1 st)
theorem mt_y {q : BQ} {e st : Nat} (h : memB q e = true) : mtQ q e st = q := if_pos h
theorem mt_n {q : BQ} {e st : Nat} (h : memB q e = false) : mtQ q e st = (q.1 + 1, uN q.2.1 q.1 e, uN q.2.2 q.1 st) := if_neg (by rw [h]; decide)
theorem mem_n {q : BQ} {e st x : Nat} (h : memB q e = false) : memB (mtQ q e st) x = (memB q x || decide (x = e)) := by
  rw [mt_n h]
  cases q1 : memB q x
  · rw [Bool.false_or]
    by_cases c : x = e
    · subst c
      rw [decide_eq_true rfl]
      exact mem_iff.mpr ⟨q.1, Nat.lt_succ_self _, uN_eq _ _ _⟩
    · rw [decide_eq_false c]
      cases q2 : memB (q.1 + 1, uN q.2.1 q.1 e, uN q.2.2 q.1 st) x
      · rfl
      · obtain ⟨i, h1, h2⟩ := mem_iff.mp q2
        have h1' : i < q.1 + 1 := h1
        have h2' : uN q.2.1 q.1 e i = x := h2
        by_cases d : i = q.1
        · subst d; rw [uN_eq] at h2'; exact absurd h2'.symm c
        · rw [uN_ne d] at h2'
          exact absurd h2' (mem_no q1 (by omega))
  · rw [Bool.true_or]
    obtain ⟨i, h1, h2⟩ := mem_iff.mp q1
    exact mem_iff.mpr ⟨i, Nat.lt_succ_of_lt h1, by show uN q.2.1 q.1 e i = x; rw [uN_ne (by omega)]; exact h2⟩
/-- what holds of the row all along -/
def qOK (n c : Nat) (q : BQ) : Prop := 1 ≤ q.1 ∧ (∀ i, i < q.1 → Fam n c (q.2.1 i)) ∧ (∀ i j, i < j → j < q.1 → q.2.1 i ≠ q.2.1 j) ∧ (∀ i, i < q.1 → q.2.2 i ≤ i)
def fIx (p m : Nat) (b : Bool) : Nat := (p * 16 + m) * 2 + b.toNat
theorem fIx_inj {p m p2 m2 : Nat} {b b2 : Bool} (hm : m < 16) (hm2 : m2 < 16) (h : fIx p m b = fIx p2 m2 b2) : p = p2 ∧ m = m2 ∧ b = b2 := by
  unfold fIx at h
  cases b <;> cases b2 <;> simp at h ⊢ <;> omega
theorem q_768 {n c : Nat} {q : BQ} (h : qOK n c q) : q.1 ≤ 768 := by
  obtain ⟨_, h2, h3, _⟩ := h
  have ch : ∀ i, ∃ x : Nat, i < q.1 → ∃ p m b, p < 24 ∧ m < 16 ∧ q.2.1 i = tF n c p m b ∧ x = fIx p m b := fun i => by
    by_cases hi : i < q.1
    · obtain ⟨p, m, b, a1, a2, a3⟩ := h2 i hi
      exact ⟨fIx p m b, fun _ => ⟨p, m, b, a1, a2, a3, rfl⟩⟩
    · exact ⟨0, fun z => absurd z hi⟩
  let F : Nat → Nat := fun i => Classical.choose (ch i)
  have hF : ∀ i, i < q.1 → ∃ p m b, p < 24 ∧ m < 16 ∧ q.2.1 i = tF n c p m b ∧ F i = fIx p m b := fun i hi => Classical.choose_spec (ch i) hi
  refine fb_holes 768 q.1 F (fun i hi => ?_) (fun i j hij hj => ?_)
  · obtain ⟨p, m, b, a1, a2, _, a4⟩ := hF i hi
    rw [a4]
    unfold fIx
    have : b.toNat ≤ 1 := by cases b <;> decide
    omega
  · intro e
    obtain ⟨p, m, b, a1, a2, a3, a4⟩ := hF i (by omega)
    obtain ⟨p', m', b', b1, b2, b3, b4⟩ := hF j hj
    rw [a4, b4] at e
    obtain ⟨e1, e2, e3⟩ := fIx_inj a2 b2 e
    subst e1; subst e2; subst e3
    exact h3 i j hij hj (by rw [a3, b3])
theorem q_mt {n c : Nat} {q : BQ} (h : qOK n c q) {e st : Nat} (he : Fam n c e) (hs : st ≤ q.1) : qOK n c (mtQ q e st) := by
  cases m : memB q e
  · rw [mt_n m]
    obtain ⟨h1, h2, h3, h4⟩ := h
    refine ⟨Nat.succ_pos _, fun i hi => ?_, fun i j hij hj => ?_, fun i hi => ?_⟩
    · show Fam n c (uN q.2.1 q.1 e i)
      have hi' : i < q.1 + 1 := hi
      by_cases d : i = q.1
      · subst d; rw [uN_eq]; exact he
      · rw [uN_ne d]; exact h2 i (by omega)
    · show uN q.2.1 q.1 e i ≠ uN q.2.1 q.1 e j
      have hj' : j < q.1 + 1 := hj
      rw [uN_ne (show i ≠ q.1 by omega)]
      by_cases d : j = q.1
      · subst d; rw [uN_eq]; exact mem_no m hij
      · rw [uN_ne d]; exact h3 i j hij (by omega)
    · show uN q.2.2 q.1 st i ≤ i
      have hi' : i < q.1 + 1 := hi
      by_cases d : i = q.1
      · subst d; rw [uN_eq]; exact hs
      · rw [uN_ne d]; exact h4 i (by omega)
  · rw [mt_y m]; exact h
theorem mt_ge (q : BQ) (e st : Nat) : q.1 ≤ (mtQ q e st).1 := by
  cases m : memB q e
  · rw [mt_n m]; exact Nat.le_succ _
  · rw [mt_y m]; exact Nat.le_refl _
theorem mt_keep {q : BQ} {e st i : Nat} (hi : i < q.1) : (mtQ q e st).2.1 i = q.2.1 i ∧ (mtQ q e st).2.2 i = q.2.2 i := by
  cases m : memB q e
  · rw [mt_n m]; exact ⟨uN_ne (by omega), uN_ne (by omega)⟩
  · rw [mt_y m]; exact ⟨rfl, rfl⟩
def besQ (n e st : Nat) (q : BQ) : Nat → BQ
  | 0 => q
  | m + 1 => mtQ (besQ n e st q m) (mvN n e m) st
theorem bes_ok {n c e st : Nat} {q : BQ} (h4 : n ≤ 4) (h : qOK n c q) (he : Fam n c e) (hs : st ≤ q.1) : ∀ m, qOK n c (besQ n e st q m) ∧ q.1 ≤ (besQ n e st q m).1 ∧ ∀ i, i < q.1 → (besQ n e st q m).2.1 i = q.2.1 i ∧ (besQ n e st q m).2.2 i = q.2.2 i
  | 0 => ⟨h, Nat.le_refl _, fun _ _ => ⟨rfl, rfl⟩⟩
  | m + 1 => by
    obtain ⟨a, b, k⟩ := bes_ok h4 h he hs m
    have g := mt_ge (besQ n e st q m) (mvN n e m) st
    refine ⟨q_mt a (fam_m h4 he m) (by omega), Nat.le_trans b g, fun i hi => ?_⟩
    have z := mt_keep (q := besQ n e st q m) (e := mvN n e m) (st := st) (i := i) (by omega)
    exact ⟨z.1.trans (k i hi).1, z.2.trans (k i hi).2⟩
def bfQ (n c : Nat) : Nat → BQ
  | 0 => (1, fun _ => c, fun _ => 0)
  | k + 1 => if k < (bfQ n c k).1 then besQ n ((bfQ n c k).2.1 k) ((bfQ n c k).2.2 k + 1) (bfQ n c k) (2 * n + 1) else bfQ n c k
theorem bf_y {n c k : Nat} (h : k < (bfQ n c k).1) : bfQ n c (k + 1) = besQ n ((bfQ n c k).2.1 k) ((bfQ n c k).2.2 k + 1) (bfQ n c k) (2 * n + 1) := if_pos h
theorem bf_n {n c k : Nat} (h : ¬ k < (bfQ n c k).1) : bfQ n c (k + 1) = bfQ n c k := if_neg h
theorem bf_ok {n c : Nat} (h4 : n ≤ 4) (hc : c < 2 ^ 2 ^ n) : ∀ k, qOK n c (bfQ n c k)
  | 0 => ⟨Nat.le_refl _, fun _ _ => fam_0 h4 hc, fun i j hij hj => absurd hj (by show ¬ j < 1; omega), fun _ _ => Nat.zero_le _⟩
  | k + 1 => by
    have a := bf_ok h4 hc k
    by_cases h : k < (bfQ n c k).1
    · rw [bf_y h]
      have := a.2.2.2 k h
      exact (bes_ok h4 a (a.2.1 k h) (by omega) _).1
    · rw [bf_n h]; exact a
theorem bf_st {n c k : Nat} (h : ¬ k < (bfQ n c k).1) : ∀ m, bfQ n c (k + m) = bfQ n c k
  | 0 => rfl
  | m + 1 => by
    have e := bf_st h m
    show bfQ n c (k + m + 1) = _
    rw [bf_n (by rw [e]; omega), e]
theorem bf_end {n c k : Nat} (h : ¬ k < (bfQ n c k).1) (hk : k ≤ 768) : bfQ n c k = bfQ n c 768 := by
  have := bf_st h (768 - k)
  rw [show k + (768 - k) = 768 by omega] at this
  exact this.symm
def orbF (n c : Nat) : BQ := bfQ n c 768
/-- the steps to e, or that it isn't come to -/
def ansSt (q : BQ) (e : Nat) : Int32 := if memB q e = true then nI (q.2.2 (fa_first (fun i => decide (q.2.1 i = e)) q.1)) else -5
theorem sq_no {q : BQ} {e : Nat} (h : memB q e = false) : ansSt q e = -5 := if_neg (by rw [h]; decide)
theorem st_at {q : BQ} {e i : Nat} (hi : i < q.1) (h : q.2.1 i = e) (hd : ∀ j, j < i → q.2.1 j ≠ e) : ansSt q e = nI (q.2.2 i) := by
  unfold ansSt
  rw [if_pos (mem_iff.mpr ⟨i, hi, h⟩), first_eq hi (decide_eq_true h) (fun j hj => decide_eq_false (hd j hj))]
theorem st_ok {n c : Nat} {q : BQ} (hq : qOK n c q) {i : Nat} (hi : i < q.1) : ansSt q (q.2.1 i) = nI (q.2.2 i) := st_at hi rfl (fun j hj => hq.2.2.1 j i hj hi)
theorem st_mt {n c : Nat} {q : BQ} (hq : qOK n c q) {e st : Nat} (he : Fam n c e) (hs : st ≤ q.1) (hm : memB q e = false) (x : Nat) : ansSt (mtQ q e st) x = if x = e then nI st else ansSt q x := by
  have h2 := q_mt hq he hs
  by_cases c1 : x = e
  · subst c1
    rw [if_pos rfl]
    have := st_ok h2 (i := q.1) (by rw [mt_n hm]; exact Nat.lt_succ_self _)
    have e1 : (mtQ q x st).2.1 q.1 = x := by rw [mt_n hm]; exact uN_eq _ _ _
    have e2 : (mtQ q x st).2.2 q.1 = st := by rw [mt_n hm]; exact uN_eq _ _ _
    rw [e1, e2] at this
    exact this
  · rw [if_neg c1]
    cases m : memB q x
    · rw [sq_no m, sq_no (by rw [mem_n hm, m, decide_eq_false c1]; rfl)]
    · obtain ⟨i, h1, h3⟩ := mem_iff.mp m
      have k := mt_keep (q := q) (e := e) (st := st) h1
      have g := mt_ge q e st
      have a := st_ok h2 (i := i) (by omega)
      have b := st_ok hq h1
      rw [k.1, k.2, h3] at a
      rw [h3] at b
      rw [a, b]
theorem st_5 {n c : Nat} {q : BQ} (hq : qOK n c q) {e : Nat} : ansSt q e = -5 ↔ memB q e = false := by
  constructor
  · intro h
    cases m : memB q e
    · rfl
    · obtain ⟨i, h1, h3⟩ := mem_iff.mp m
      have b := st_ok hq h1
      have l := hq.2.2.2 i h1
      have l2 := q_768 hq
      rw [h3, h] at b
      have := congrArg Int32.toInt b
      rw [nI_toInt (by omega)] at this
      have e5 : (-5 : Int32).toInt = -5 := rfl
      omega
  · exact sq_no
/-! bits of a word -/
def wb (x : Int32) (j : Nat) : Bool := x.toBitVec.getLsbD j
theorem sh_tp : ∀ j, j < 32 → ((1 : Int32) <<< (nI j &&& 31)).toBitVec = BitVec.twoPow 32 j := by decide +kernel
theorem wb_or {x : Int32} {j i : Nat} (hj : j < 32) : wb (x ||| ((1 : Int32) <<< (nI j &&& 31))) i = (wb x i || decide (i = j)) := by
  unfold wb
  rw [Int32.toBitVec_or, BitVec.getLsbD_or, sh_tp j hj, BitVec.getLsbD_twoPow]
  by_cases c : j = i
  · subst c; simp [hj]
  · simp [c, show ¬ i = j from fun z => c z.symm]
theorem wb_and {x : Int32} {j : Nat} (hj : j < 32) : x &&& ((1 : Int32) <<< (nI j &&& 31)) = 0 ↔ wb x j = false := by
  unfold wb
  rw [← Int32.toBitVec_inj, Int32.toBitVec_and, sh_tp j hj]
  constructor
  · intro h
    have := congrArg (fun z => z.getLsbD j) h
    simp only [BitVec.getLsbD_and, BitVec.getLsbD_twoPow] at this
    simpa [hj] using this
  · intro h
    apply BitVec.eq_of_getLsbD_eq
    intro i hi
    rw [BitVec.getLsbD_and, BitVec.getLsbD_twoPow]
    by_cases c : j = i
    · subst c; rw [h]; simp
    · simp [c]
theorem wb_0 (j : Nat) : wb 0 j = false := by
  unfold wb
  show (0#32).getLsbD j = false
  simp

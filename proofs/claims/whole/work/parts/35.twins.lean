/-! twins -/
def pop (x : Nat) : Nat := cnt x.testBit 16
def dgt (x v : Nat) : Nat := cnt (x &&& wW v).testBit 16
def keyN (x : Nat) : Nat := dgt x 0 + 9 * (dgt x 1 + 9 * dgt x 2)
def D8 (x v : Nat) : Nat := cnt (fun q => x.testBit q && q.testBit v) 8
theorem tb8 {x k : Nat} (hx : x < 256) (hk : 8 ≤ k) : x.testBit k = false := tb_hi (N := 8) hx hk
theorem cnt_0 {p : Nat → Bool} : ∀ {N : Nat}, (∀ k, k < N → p k = false) → cnt p N = 0
  | 0, _ => rfl
  | N + 1, h => by rw [cnt_s, cnt_0 (fun k hk => h k (by omega)), h N (by omega)]; rfl
theorem pop8 {x : Nat} (hx : x < 256) : pop x = cnt x.testBit 8 := cnt_hi (N := 8) hx 8
theorem dgt8 {x v : Nat} (hx : x < 256) (hv : v < 3) : dgt x v = D8 x v := by
  unfold dgt D8
  rw [show 16 = 8 + 8 from rfl, cnt_split]
  have e2 : cnt (fun k => (x &&& wW v).testBit (8 + k)) 8 = 0 := cnt_0 (fun k hk => by rw [Nat.testBit_and, tb8 hx (by omega)]; rfl)
  rw [e2, Nat.add_zero]
  exact cnt_congr (fun k hk => by rw [Nat.testBit_and, wW_t v (by omega) k (by omega), decide_eq_true (show k < 16 by omega), Bool.true_and])
theorem cnt_mono {p q : Nat → Bool} : ∀ {N : Nat}, (∀ k, k < N → p k = true → q k = true) → cnt p N ≤ cnt q N
  | 0, _ => Nat.le_refl _
  | N + 1, h => by
    have := cnt_mono (p := p) (q := q) (N := N) (fun k hk => h k (by omega))
    have h1 := h N (by omega)
    rw [cnt_s, cnt_s]
    cases e : p N
    · simp; split <;> omega
    · rw [h1 e]; simp; omega
theorem D8_le {x v : Nat} (hv : v < 3) : D8 x v ≤ 4 := by
  have h : D8 x v ≤ cnt (fun q => q.testBit v) 8 := cnt_mono (fun k _ e => by rw [Bool.and_eq_true] at e; exact e.2)
  have h2 : cnt (fun q => q.testBit v) 8 = 4 := by rcases (show v = 0 ∨ v = 1 ∨ v = 2 by omega) with rfl | rfl | rfl <;> decide
  omega
theorem key8 {x : Nat} (hx : x < 256) : keyN x = D8 x 0 + 9 * (D8 x 1 + 9 * D8 x 2) := by unfold keyN; rw [dgt8 hx (by omega), dgt8 hx (by omega), dgt8 hx (by omega)]
theorem key_lt {x : Nat} (hx : x < 256) : keyN x < 729 := by
  rw [key8 hx]
  have a := D8_le (x := x) (v := 0) (by omega)
  have b := D8_le (x := x) (v := 1) (by omega)
  have c := D8_le (x := x) (v := 2) (by omega)
  omega
def chO (n c k : Nat) : Nat := if k = 0 then cnt c.testBit (2 ^ n) else cnt (fun q => c.testBit q && q.testBit (k - 1)) (2 ^ n)
def twV (n c e : Nat) : Nat → Bool
  | 0 => true
  | k + 1 => twV n c e k && decide (chO n e k = chO n c k)
def twP (n c e : Nat) : Bool := twV n c e (n + 1)
def twN (n c : Nat) : Nat := cnt (twP n c) (2 ^ 2 ^ n)
theorem twV_iff (n c e : Nat) : ∀ m, twV n c e m = true ↔ ∀ k, k < m → chO n e k = chO n c k
  | 0 => ⟨fun _ k hk => absurd hk (by omega), fun _ => rfl⟩
  | m + 1 => by
    unfold twV
    rw [Bool.and_eq_true, twV_iff n c e m, decide_eq_true_eq]
    constructor
    · intro h k hk
      rcases Nat.lt_succ_iff_lt_or_eq.mp hk with q | q
      · exact h.1 k q
      · subst q; exact h.2
    · intro h
      exact ⟨fun k hk => h k (by omega), h m (by omega)⟩
theorem twV_f {n c e k : Nat} (h : twV n c e k = false) : ∀ m, twV n c e (k + m) = false
  | 0 => h
  | m + 1 => by show (twV n c e (k + m) && _) = false; rw [twV_f h m]; rfl
theorem twV_x {n c e k : Nat} (hk : k ≤ n + 1) (h : twV n c e k = false) : twP n c e = false := by
  have := twV_f h (n + 1 - k)
  rwa [show k + (n + 1 - k) = n + 1 by omega] at this
theorem tb_hl {h l : Nat} (hl : l < 256) (k : Nat) : (256 * h + l).testBit k = if k < 8 then l.testBit k else h.testBit (k - 8) := by
  have := Nat.testBit_two_pow_mul_add (b := l) h (i := 8) hl k
  exact this
theorem q3 : ∀ v, v < 3 → ∀ k, k < 8 → (8 + k).testBit v = k.testBit v := by decide +kernel
theorem q4 : ∀ k, k < 8 → k.testBit 3 = false ∧ (8 + k).testBit 3 = true := by decide +kernel
theorem ch_0 {h l : Nat} (hh : h < 256) (hl : l < 256) : chO 4 (256 * h + l) 0 = pop l + pop h := by
  unfold chO
  rw [if_pos rfl, show 2 ^ 4 = 8 + 8 from rfl, cnt_split, pop8 hl, pop8 hh]
  congr 1
  · exact cnt_congr (fun k hk => by rw [tb_hl hl, if_pos hk])
  · exact cnt_congr (fun k hk => by rw [tb_hl hl, if_neg (by omega), show 8 + k - 8 = k by omega])
theorem ch_v {h l v : Nat} (hl : l < 256) (hv : v < 3) : chO 4 (256 * h + l) (v + 1) = D8 l v + D8 h v := by
  unfold chO D8
  rw [if_neg (by omega), show 2 ^ 4 = 8 + 8 from rfl, cnt_split, show v + 1 - 1 = v from rfl]
  congr 1
  · exact cnt_congr (fun k hk => by rw [tb_hl hl, if_pos hk])
  · exact cnt_congr (fun k hk => by rw [tb_hl hl, if_neg (by omega), show 8 + k - 8 = k by omega, q3 v hv k hk])
theorem ch_4 {h l : Nat} (hh : h < 256) (hl : l < 256) : chO 4 (256 * h + l) 4 = pop h := by
  unfold chO
  rw [if_neg (by omega), show 2 ^ 4 = 8 + 8 from rfl, cnt_split, pop8 hh]
  have e : cnt (fun q => (256 * h + l).testBit q && q.testBit (4 - 1)) 8 = 0 := cnt_0 (fun k hk => by
    show ((256 * h + l).testBit k && k.testBit 3) = false
    rw [(q4 k hk).1, Bool.and_false])
  rw [e, Nat.zero_add]
  exact cnt_congr (fun k hk => by
    show ((256 * h + l).testBit (8 + k) && (8 + k).testBit 3) = _
    rw [(q4 k hk).2, Bool.and_true, tb_hl hl, if_neg (by omega), show 8 + k - 8 = k by omega])
def kyQ (y k l : Nat) : Bool := decide (pop l = y ∧ keyN l = k)
theorem key_sum {a b c d : Nat} (ha : a < 256) (hb : b < 256) (hc : c < 256) (hd : d < 256) : keyN a + keyN b = keyN c + keyN d ↔ ∀ v, v < 3 → D8 a v + D8 b v = D8 c v + D8 d v := by
  rw [key8 ha, key8 hb, key8 hc, key8 hd]
  have a0 := D8_le (x := a) (v := 0) (by omega)
  have a1 := D8_le (x := a) (v := 1) (by omega)
  have a2 := D8_le (x := a) (v := 2) (by omega)
  have b0 := D8_le (x := b) (v := 0) (by omega)
  have b1 := D8_le (x := b) (v := 1) (by omega)
  have b2 := D8_le (x := b) (v := 2) (by omega)
  have c0 := D8_le (x := c) (v := 0) (by omega)
  have c1 := D8_le (x := c) (v := 1) (by omega)
  have c2 := D8_le (x := c) (v := 2) (by omega)
  have d0 := D8_le (x := d) (v := 0) (by omega)
  have d1 := D8_le (x := d) (v := 1) (by omega)
  have d2 := D8_le (x := d) (v := 2) (by omega)
  constructor
  · intro h v hv
    rcases (show v = 0 ∨ v = 1 ∨ v = 2 by omega) with rfl | rfl | rfl <;> omega
  · intro h
    have e0 := h 0 (by omega)
    have e1 := h 1 (by omega)
    have e2 := h 2 (by omega)
    omega
/-- four voters: the halves apart -/
theorem tw_4 {w h l e : Nat} (hw : w < 256) (hh : h < 256) (hl : l < 256) (he : e < 256) : twP 4 (256 * h + w) (256 * e + l) = (decide (pop e = pop h) && decide (keyN e ≤ keyN w + keyN h) && kyQ (pop w) (keyN w + keyN h - keyN e) l) := by
  have ks := key_sum hl he hw hh
  have ke := key_lt he
  have iff : twP 4 (256 * h + w) (256 * e + l) = true ↔ (pop e = pop h ∧ keyN e ≤ keyN w + keyN h ∧ pop l = pop w ∧ keyN l = keyN w + keyN h - keyN e) := by
    unfold twP
    rw [twV_iff]
    constructor
    · intro q
      have q0 := q 0 (by omega)
      have q4 := q 4 (by omega)
      rw [ch_0 he hl, ch_0 hh hw] at q0
      rw [ch_4 he hl, ch_4 hh hw] at q4
      have k1 := ks.mpr (fun v hv => by
        have := q (v + 1) (by omega)
        rwa [ch_v hl hv, ch_v hw hv] at this)
      omega
    · intro q k hk
      have k1 := ks.mp (by omega)
      rcases (show k = 0 ∨ k = 4 ∨ ∃ v, v < 3 ∧ k = v + 1 by
        rcases (show k = 0 ∨ k = 1 ∨ k = 2 ∨ k = 3 ∨ k = 4 by omega) with rfl | rfl | rfl | rfl | rfl
        · exact Or.inl rfl
        · exact Or.inr (Or.inr ⟨0, by omega, rfl⟩)
        · exact Or.inr (Or.inr ⟨1, by omega, rfl⟩)
        · exact Or.inr (Or.inr ⟨2, by omega, rfl⟩)
        · exact Or.inr (Or.inl rfl)) with rfl | rfl | ⟨v, hv, rfl⟩
      · rw [ch_0 he hl, ch_0 hh hw]; omega
      · rw [ch_4 he hl, ch_4 hh hw]; omega
      · rw [ch_v hl hv, ch_v hw hv]; exact k1 v hv
  cases q : twP 4 (256 * h + w) (256 * e + l)
  · symm
    by_cases p1 : pop e = pop h
    · by_cases p2 : keyN e ≤ keyN w + keyN h
      · have p3 : kyQ (pop w) (keyN w + keyN h - keyN e) l = false := decide_eq_false (fun z => by
          have := iff.mpr ⟨p1, p2, z.1, z.2⟩
          rw [q] at this; cases this)
        rw [p3, Bool.and_false]
      · rw [decide_eq_false p2, Bool.and_false, Bool.false_and]
    · rw [decide_eq_false p1, Bool.false_and, Bool.false_and]
  · have z := iff.mp q
    have p3 : kyQ (pop w) (keyN w + keyN h - keyN e) l = true := decide_eq_true z.2.2
    rw [p3, decide_eq_true z.1, decide_eq_true z.2.1]
    rfl
def fnT (G w h e : Nat) : Nat := if pop e = pop h ∧ keyN e ≤ keyN w + keyN h ∧ keyN w + keyN h - keyN e < 729 then cnt (kyQ (pop w) (keyN w + keyN h - keyN e)) G else 0
theorem tw_blk (p : Nat → Bool) (B : Nat) : ∀ m, cnt p (B * m) = fb_sm (fun e => cnt (fun l => p (B * e + l)) B) m
  | 0 => rfl
  | m + 1 => by
    rw [show B * (m + 1) = B * m + B from Nat.mul_succ B m, cnt_split, tw_blk p B m]
    rfl
theorem tw_eq4 {w h : Nat} (hw : w < 256) (hh : h < 256) : fb_sm (fnT 256 w h) 256 = twN 4 (256 * h + w) := by
  unfold twN
  rw [show 2 ^ 2 ^ 4 = 256 * 256 from rfl, tw_blk]
  refine fb_sm_cong (fun e he => ?_)
  unfold fnT
  by_cases c : pop e = pop h ∧ keyN e ≤ keyN w + keyN h ∧ keyN w + keyN h - keyN e < 729
  · rw [if_pos c]
    exact cnt_congr (fun l hl => by rw [tw_4 hw hh hl he, decide_eq_true c.1, decide_eq_true c.2.1]; rfl)
  · rw [if_neg c]
    symm
    refine cnt_0 (fun l hl => ?_)
    rw [tw_4 hw hh hl he]
    by_cases p1 : pop e = pop h
    · by_cases p2 : keyN e ≤ keyN w + keyN h
      · have p3 : kyQ (pop w) (keyN w + keyN h - keyN e) l = false := decide_eq_false (fun z => c ⟨p1, p2, by have := key_lt hl; omega⟩)
        rw [p3, Bool.and_false]
      · rw [decide_eq_false p2, Bool.and_false, Bool.false_and]
    · rw [decide_eq_false p1, Bool.false_and, Bool.false_and]
theorem pop_0 {e : Nat} (he : e < 256) (h : pop e = 0) : e = 0 := by
  rw [pop8 he] at h
  have z : ∀ N k, k < N → cnt e.testBit N = 0 → e.testBit k = false := by
    intro N
    induction N with
    | zero => intro k hk; exact absurd hk (by omega)
    | succ N ih =>
      intro k hk q
      rw [cnt_s] at q
      rcases Nat.lt_succ_iff_lt_or_eq.mp hk with y | y
      · exact ih k y (by omega)
      · subst y
        cases e1 : e.testBit k
        · rfl
        · rw [e1] at q; simp at q
  exact bits_ext (N := 8) he (by decide) (fun k hk => by rw [z 8 k hk h]; simp)
theorem ch3_0 {n e : Nat} (h3 : n ≤ 3) (he : e < 2 ^ 2 ^ n) : chO n e 0 = pop e := by
  unfold chO pop
  rw [if_pos rfl]
  have p : 2 ^ n ≤ 2 ^ 3 := Nat.pow_le_pow_right (by omega) h3
  have := cnt_hi he (16 - 2 ^ n)
  rw [show 2 ^ n + (16 - 2 ^ n) = 16 by omega] at this
  exact this.symm
theorem ch3_v {n e v : Nat} (h3 : n ≤ 3) (he : e < 2 ^ 2 ^ n) : chO n e (v + 1) = D8 e v := by
  unfold chO D8
  rw [if_neg (by omega), show v + 1 - 1 = v from rfl]
  have p : 2 ^ n ≤ 2 ^ 3 := Nat.pow_le_pow_right (by omega) h3
  rw [show (8 : Nat) = 2 ^ n + (8 - 2 ^ n) by omega, cnt_split]
  have e2 : cnt (fun k => e.testBit (2 ^ n + k) && (2 ^ n + k).testBit v) (8 - 2 ^ n) = 0 := cnt_0 (fun k hk => by rw [tb_hi he (by omega)]; rfl)
  rw [e2, Nat.add_zero]
theorem D8_hi {n e v : Nat} (h3 : n ≤ 3) (he : e < 2 ^ 2 ^ n) (hv : n ≤ v) : D8 e v = 0 := by
  refine cnt_0 (fun k hk => ?_)
  by_cases c : k < 2 ^ n
  · have p : 2 ^ n ≤ 2 ^ v := Nat.pow_le_pow_right (by omega) hv
    rw [Nat.testBit_lt_two_pow (show k < 2 ^ v by omega), Bool.and_false]
  · rw [tb_hi he (by omega)]; rfl
theorem p256 {n : Nat} (h : n ≤ 3) : 2 ^ 2 ^ n ≤ 256 := by
  have p : 2 ^ n ≤ 2 ^ 3 := Nat.pow_le_pow_right (by omega) h
  have q : 2 ^ 2 ^ n ≤ 2 ^ 8 := Nat.pow_le_pow_right (by omega) p
  omega
theorem tw_3 {n c e : Nat} (h3 : n ≤ 3) (hc : c < 2 ^ 2 ^ n) (he : e < 2 ^ 2 ^ n) : twP n c e = kyQ (pop c) (keyN c) e := by
  have p := p256 h3
  have iff : twP n c e = true ↔ pop e = pop c ∧ keyN e = keyN c := by
    unfold twP
    rw [twV_iff]
    have ks := key_sum (a := e) (b := 0) (c := c) (d := 0) (by omega) (by omega) (by omega) (by omega)
    constructor
    · intro q
      have q0 := q 0 (by omega)
      rw [ch3_0 h3 he, ch3_0 h3 hc] at q0
      refine ⟨q0, ?_⟩
      have := ks.mpr (fun v hv => by
        by_cases cv : v < n
        · have := q (v + 1) (by omega)
          rw [ch3_v h3 he, ch3_v h3 hc] at this
          omega
        · rw [D8_hi h3 he (by omega), D8_hi h3 hc (by omega)])
      omega
    · intro q k hk
      rcases (show k = 0 ∨ ∃ v, k = v + 1 by cases k with | zero => exact Or.inl rfl | succ v => exact Or.inr ⟨v, rfl⟩) with rfl | ⟨v, rfl⟩
      · rw [ch3_0 h3 he, ch3_0 h3 hc]; exact q.1
      · rw [ch3_v h3 he, ch3_v h3 hc]
        have := ks.mp (by omega) v (by omega)
        omega
  unfold kyQ
  cases q : twP n c e
  · symm; exact decide_eq_false (fun z => by have := iff.mpr z; rw [q] at this; cases this)
  · symm; exact decide_eq_true (iff.mp q)
theorem key_00 : keyN 0 = 0 ∧ pop 0 = 0 := by decide
theorem tw_eq3 {n c : Nat} (h3 : n ≤ 3) (hc : c < 2 ^ 2 ^ n) : ∀ m, fb_sm (fnT (2 ^ 2 ^ n) c 0) (m + 1) = if m < 256 then twN n c else fb_sm (fnT (2 ^ 2 ^ n) c 0) (m + 1)
  | 0 => by
    rw [if_pos (by omega), fb_sm_succ]
    show 0 + fnT (2 ^ 2 ^ n) c 0 0 = _
    have p := p256 h3
    have k := key_lt (x := c) (by omega)
    unfold fnT twN
    rw [key_00.1, if_pos ⟨rfl, by omega, by omega⟩, Nat.zero_add]
    exact cnt_congr (fun l hl => (tw_3 h3 hc hl).symm)
  | m + 1 => by
    by_cases q : m + 1 < 256
    · rw [if_pos q, fb_sm_succ, tw_eq3 h3 hc m, if_pos (by omega)]
      have e : fnT (2 ^ 2 ^ n) c 0 (m + 1) = 0 := if_neg (fun z => by
        have := pop_0 (e := m + 1) (by omega) (by rw [z.1]; exact key_00.2)
        omega)
      rw [e]
      rfl
    · rw [if_neg q]
def gTw (n : Nat) : Nat := ((2 ^ 2 ^ n - 1) &&& 255) + 1
theorem gTw_e : gTw 2 = 16 ∧ gTw 3 = 256 ∧ gTw 4 = 256 := by decide
theorem hlv {c : Nat} (hc : c < 65536) : c = 256 * (c / 2 ^ 8 &&& 255) + (c &&& 255) := by
  rw [show (255 : Nat) = 2 ^ 8 - 1 from rfl, Nat.and_two_pow_sub_one_eq_mod, Nat.and_two_pow_sub_one_eq_mod]
  omega
theorem lt255 (x : Nat) : x &&& 255 < 256 := by have := Nat.and_le_right (n := x) (m := 255); omega
theorem tw_eq {n c : Nat} (h2 : 2 ≤ n) (h4 : n ≤ 4) (hc : c < 2 ^ 2 ^ n) : fb_sm (fnT (gTw n) (c &&& 255) (c / 2 ^ 8 &&& 255)) 256 = twN n c := by
  have hc2 : c < 65536 := by have := p65 h4; omega
  have e := hlv hc2
  have l1 := lt255 c
  have l2 := lt255 (c / 2 ^ 8)
  by_cases h : n = 4
  · subst h
    rw [gTw_e.2.2, tw_eq4 l1 l2, ← e]
  · have p := p256 (n := n) (by omega)
    have z : c / 2 ^ 8 &&& 255 = 0 := by omega
    have w : c &&& 255 = c := by omega
    rw [z, w]
    have g : gTw n = 2 ^ 2 ^ n := by
      rcases (show n = 2 ∨ n = 3 by omega) with rfl | rfl
      · exact gTw_e.1
      · exact gTw_e.2.1
    rw [g]
    have := tw_eq3 (n := n) (c := c) (by omega) hc 255
    rw [if_pos (by omega)] at this
    exact this
theorem kI (x y z : Nat) : nI x + 9 * (nI y + 9 * nI z) = nI (x + 9 * (y + 9 * z)) := by
  rw [show (9 : Int32) = nI 9 from rfl, pk_mul, nI_add, pk_mul, nI_add]
set_option maxRecDepth 100000 in
set_option maxHeartbeats 4000000 in
theorem c_X8_key {g : GC} {d : Nat} {M : MI} {L : ML} {x : Nat} (hx : x < 256) : CfI g (d + 1) yX8_key cX8_key 4 .int [.int (nI x)] M L (nI (keyN x)) (M) (L) := by
  refine cfI_of (own := RX8) (l := [some (.int (nI x)), none, none, none]) 3 rfl rfl rfl (Nat.le_of_ble_eq_true rfl) ?_
  refine tm_iload_0 1 rfl dX8_key_0 ?_
  refine tm_iconst (0) rfl 2 rfl dX8_key_1 ?_
  refine tm_callS_I (c_X0_with (v := 0) (by omega)) ms_X0_with ml_X8_31 rfl rfl (Nat.le_of_ble_eq_true rfl) 5 rfl dX8_key_2 ?_
  refine tm_iand 6 rfl dX8_key_5 ?_
  rw [fa_and]
  refine tm_callS_I (c_J6_bitCount_0f7a4 (x := x &&& wW 0) (Nat.lt_of_le_of_lt Nat.and_le_left (by omega))) ms_J6_bitCount_0f7a4 ml_X8_22 rfl rfl (Nat.le_of_ble_eq_true rfl) 9 rfl dX8_key_6 ?_
  refine tm_istore_1 (by decide) rfl 10 rfl dX8_key_9 ?_
  refine tm_iload_0 11 rfl dX8_key_10 ?_
  refine tm_iconst (1) rfl 12 rfl dX8_key_11 ?_
  refine tm_callS_I (c_X0_with (v := 1) (by omega)) ms_X0_with ml_X8_31 rfl rfl (Nat.le_of_ble_eq_true rfl) 15 rfl dX8_key_12 ?_
  refine tm_iand 16 rfl dX8_key_15 ?_
  rw [fa_and]
  refine tm_callS_I (c_J6_bitCount_0f7a4 (x := x &&& wW 1) (Nat.lt_of_le_of_lt Nat.and_le_left (by omega))) ms_J6_bitCount_0f7a4 ml_X8_22 rfl rfl (Nat.le_of_ble_eq_true rfl) 19 rfl dX8_key_16 ?_
  refine tm_istore_2 (by decide) rfl 20 rfl dX8_key_19 ?_
  refine tm_iload_0 21 rfl dX8_key_20 ?_
  refine tm_iconst (2) rfl 22 rfl dX8_key_21 ?_
  refine tm_callS_I (c_X0_with (v := 2) (by omega)) ms_X0_with ml_X8_31 rfl rfl (Nat.le_of_ble_eq_true rfl) 25 rfl dX8_key_22 ?_
  refine tm_iand 26 rfl dX8_key_25 ?_
  rw [fa_and]
  refine tm_callS_I (c_J6_bitCount_0f7a4 (x := x &&& wW 2) (Nat.lt_of_le_of_lt Nat.and_le_left (by omega))) ms_J6_bitCount_0f7a4 ml_X8_22 rfl rfl (Nat.le_of_ble_eq_true rfl) 29 rfl dX8_key_26 ?_
  refine tm_istore_3 (by decide) rfl 30 rfl dX8_key_29 ?_
  refine tm_iload_1 31 rfl dX8_key_30 ?_
  refine tm_bipush (9) (by decide) 33 rfl dX8_key_31 ?_
  refine tm_iload_2 34 rfl dX8_key_33 ?_
  refine tm_bipush (9) (by decide) 36 rfl dX8_key_34 ?_
  refine tm_iload_3 37 rfl dX8_key_36 ?_
  refine tm_imul 38 rfl dX8_key_37 ?_
  refine tm_iadd 39 rfl dX8_key_38 ?_
  refine tm_imul 40 rfl dX8_key_39 ?_
  refine tm_iadd 41 rfl dX8_key_40 ?_
  exact tm_iret (kI _ _ _) rfl rfl dX8_key_41

def kyM (M : MI) (y j : Nat) : MI := sr M 53 (fun k => if k < 729 then nI (cnt (kyQ y k) j) else M 53 k)
def kzM (M : MI) (j : Nat) : MI := sr M 53 (fun k => if k < j then 0 else M 53 k)
theorem kzM_0 (M : MI) : kzM M 0 = M := by
  unfold kzM
  have e : (fun k => if k < 0 then (0 : Int32) else M 53 k) = M 53 := by funext k; simp
  rw [e, sr_self]
theorem kzM_s (M : MI) (j : Nat) : s1 (kzM M j) 53 j 0 = kzM M (j + 1) := by
  funext i
  by_cases h : i = 53
  · subst h
    funext k
    rw [s1_at]
    unfold kzM
    rw [sr_eq, sr_eq]
    by_cases q : k = j
    · subst q; simp
    · by_cases q2 : k < j
      · simp [q, q2, show k < j + 1 by omega]
      · simp [q, q2, show ¬ k < j + 1 by omega]
  · rw [s1_ne h]; unfold kzM; rw [sr_ne h, sr_ne h]
theorem kzM_e (M : MI) (y : Nat) : kzM M 729 = kyM M y 0 := rfl
theorem kyM_53 (M : MI) (y j k : Nat) : kyM M y j 53 k = if k < 729 then nI (cnt (kyQ y k) j) else M 53 k := by unfold kyM; rw [sr_eq]
theorem kyM_ne {M : MI} {y j i : Nat} (h : i ≠ 53) : kyM M y j i = M i := sr_ne h
theorem kyM_y {M : MI} {y j : Nat} (h : pop j = y) (hj : j < 256) : s1 (kyM M y j) 53 (keyN j) (kyM M y j 53 (keyN j) + 1) = kyM M y (j + 1) := by
  have hk := key_lt hj
  funext i
  by_cases e : i = 53
  · subst e
    funext k
    rw [s1_at, kyM_53, kyM_53, kyM_53, if_pos hk]
    by_cases q : k = keyN j
    · subst q
      rw [if_pos ⟨rfl, rfl⟩, if_pos hk, nI_1, cnt_s, show kyQ y (keyN j) j = true from decide_eq_true ⟨h, rfl⟩]
      rfl
    · rw [if_neg (fun z => q z.2)]
      by_cases l : k < 729
      · rw [if_pos l, if_pos l, cnt_s, show kyQ y k j = false from decide_eq_false (fun z => q z.2.symm)]
        rfl
      · rw [if_neg l, if_neg l]
  · rw [s1_ne e, kyM_ne e, kyM_ne e]
theorem kyM_n {M : MI} {y j : Nat} (h : ¬ pop j = y) : kyM M y j = kyM M y (j + 1) := by
  funext i
  by_cases e : i = 53
  · subst e
    funext k
    rw [kyM_53, kyM_53]
    by_cases l : k < 729
    · rw [if_pos l, if_pos l, cnt_s, show kyQ y k j = false from decide_eq_false (fun z => h z.1)]
      rfl
    · rw [if_neg l, if_neg l]
  · rw [kyM_ne e, kyM_ne e]
set_option maxRecDepth 100000 in
set_option maxHeartbeats 4000000 in
theorem c_X8_countKeys {g : GC} {d : Nat} {M : MI} {L : ML} {G y : Nat} (hG : 1 ≤ G) (hG2 : G ≤ 256) (hy : y < 2 ^ 31) : CfV g (d + 2) yX8_countKeys cX8_countKeys 4 [rf g 52, .int (nI (G - 1)), .int (nI y)] M L (kyM M y G) (L) := by
  refine cfV_of (own := RX8) (l := [some (rf g 52), some (.int (nI (G - 1))), some (.int (nI y)), none]) 1 rfl rfl rfl (Nat.le_of_ble_eq_true rfl) ?_
  refine tm_iconst (0) rfl 1 rfl dX8_countKeys_0 ?_
  refine tm_istore_3 (by decide) rfl 2 rfl dX8_countKeys_1 ?_
  refine tm_mem (kzM_0 M) rfl ?_
  refine tm_loop (N := 729) (fun k => Tm g (d + 2) RX8 cX8_countKeys 4 none (QV g (kyM M y G) (L)) 2 [some (rf g 52), some (.int (nI (G - 1))), some (.int (nI y)), some (.int (nI k))] [] (kzM M k) (L)) (fun k hk ih => ?_) ?_
  · refine tm_iload_3 3 rfl dX8_countKeys_2 ?_
    refine tm_aload_0 4 rfl dX8_countKeys_3 ?_
    refine tm_getr fl_X8_9 rfl rfl 7 rfl dX8_countKeys_4 ?_
    refine tm_alenI rfl 8 rfl dX8_countKeys_7 ?_
    refine tm_icmp_ge_f 11 (nI_ge (b := 729) hk (by decide)) rfl rfl dX8_countKeys_8 ?_
    refine tm_aload_0 12 rfl dX8_countKeys_11 ?_
    refine tm_getr fl_X8_9 rfl rfl 15 rfl dX8_countKeys_12 ?_
    refine tm_iload_3 16 rfl dX8_countKeys_15 ?_
    refine tm_iconst (0) rfl 17 rfl dX8_countKeys_16 ?_
    refine tm_ast rfl (ix := k) (ix_nI (by omega) (by decide)) 18 rfl dX8_countKeys_17 ?_
    refine tm_iinc_3 (nI (k + 1)) (iinc1 k) (by decide) rfl 21 rfl dX8_countKeys_18 ?_
    refine tm_goto 2 rfl dX8_countKeys_21 ?_
    rw [kzM_s]
    exact ih
  · refine tm_iload_3 3 rfl dX8_countKeys_2 ?_
    refine tm_aload_0 4 rfl dX8_countKeys_3 ?_
    refine tm_getr fl_X8_9 rfl rfl 7 rfl dX8_countKeys_4 ?_
    refine tm_alenI rfl 8 rfl dX8_countKeys_7 ?_
    refine tm_icmp_ge_t 24 (by decide) rfl dX8_countKeys_8 ?_
    refine tm_iconst (0) rfl 25 rfl dX8_countKeys_24 ?_
    refine tm_istore_3 (by decide) rfl 26 rfl dX8_countKeys_25 ?_
    rw [kzM_e M y]
    refine tm_loop (N := G) (fun k => Tm g (d + 2) RX8 cX8_countKeys 4 none (QV g (kyM M y G) (L)) 26 [some (rf g 52), some (.int (nI (G - 1))), some (.int (nI y)), some (.int (nI k))] [] (kyM M y k) (L)) (fun k hk ih => ?_) ?_
    · refine tm_iload_3 27 rfl dX8_countKeys_26 ?_
      refine tm_iload_1 28 rfl dX8_countKeys_27 ?_
      refine tm_icmp_gt_f 31 (fun q => by rw [fa_lt, nI_toInt (by omega), nI_toInt (by omega)] at q; omega) rfl rfl dX8_countKeys_28 ?_
      refine tm_iload_3 32 rfl dX8_countKeys_31 ?_
      refine tm_callS_I (c_J6_bitCount_0f7a4 (x := k) (by omega)) ms_J6_bitCount_0f7a4 ml_X8_22 rfl rfl (Nat.le_of_ble_eq_true rfl) 35 rfl dX8_countKeys_32 ?_
      refine tm_iload_2 36 rfl dX8_countKeys_35 ?_
      refine tm_icmp_ne 52 39 rfl rfl dX8_countKeys_36 (fun h36 => ?_) (fun h36 => ?_)
      · refine tm_iinc_3 (nI (k + 1)) (iinc1 k) (by decide) rfl 55 rfl dX8_countKeys_52 ?_
        refine tm_goto 26 rfl dX8_countKeys_55 ?_
        first
          | (have z : nI (pop k) = nI y := h36; rw [kyM_y ((nI_eq (Nat.lt_of_le_of_lt (cnt_le _ _) (by decide)) hy).mp z) (by omega)]; exact ih)
          | (have z : ¬ nI (pop k) = nI y := h36; rw [kyM_n (M := M) (y := y) (j := k) (fun q => z (by rw [q]))]; exact ih)
      · refine tm_aload_0 40 rfl dX8_countKeys_39 ?_
        refine tm_getr fl_X8_9 rfl rfl 43 rfl dX8_countKeys_40 ?_
        refine tm_iload_3 44 rfl dX8_countKeys_43 ?_
        refine tm_callS_I (c_X8_key (x := k) (by omega)) ms_X8_key ml_X8_13 rfl rfl (Nat.le_of_ble_eq_true rfl) 47 rfl dX8_countKeys_44 ?_
        refine tm_dup2 rfl rfl 48 rfl dX8_countKeys_47 ?_
        refine tm_ald rfl (ix := keyN k) (ix_nI (key_lt (by omega)) (by decide)) 49 rfl dX8_countKeys_48 ?_
        refine tm_iconst (1) rfl 50 rfl dX8_countKeys_49 ?_
        refine tm_iadd 51 rfl dX8_countKeys_50 ?_
        refine tm_ast rfl (ix := keyN k) (ix_nI (key_lt (by omega)) (by decide)) 52 rfl dX8_countKeys_51 ?_
        refine tm_iinc_3 (nI (k + 1)) (iinc1 k) (by decide) rfl 55 rfl dX8_countKeys_52 ?_
        refine tm_goto 26 rfl dX8_countKeys_55 ?_
        first
          | (have z : nI (pop k) = nI y := h36; rw [kyM_y ((nI_eq (Nat.lt_of_le_of_lt (cnt_le _ _) (by decide)) hy).mp z) (by omega)]; exact ih)
          | (have z : ¬ nI (pop k) = nI y := h36; rw [kyM_n (M := M) (y := y) (j := k) (fun q => z (by rw [q]))]; exact ih)
    · refine tm_iload_3 27 rfl dX8_countKeys_26 ?_
      refine tm_iload_1 28 rfl dX8_countKeys_27 ?_
      refine tm_icmp_gt_t 58 (by rw [fa_lt, nI_toInt (by omega), nI_toInt (by omega)]; omega) rfl dX8_countKeys_28 ?_
      exact tm_vret rfl rfl dX8_countKeys_58

theorem fn_1 {G w h e k : Nat} (h1 : pop e = pop h) (h2 : keyN e + k = keyN w + keyN h) (h3 : k < 729) : fnT G w h e = cnt (kyQ (pop w) k) G := by
  unfold fnT
  rw [if_pos ⟨h1, by omega, by omega⟩, show keyN w + keyN h - keyN e = k by omega]
theorem fn_0 {G w h e : Nat} (h1 : ¬ (pop e = pop h ∧ keyN e ≤ keyN w + keyN h ∧ keyN w + keyN h - keyN e < 729)) : fnT G w h e = 0 := if_neg h1
theorem fn_s {f : Nat → Nat} {k : Nat} (h : f k = 0) : fb_sm f k = fb_sm f (k + 1) := by rw [fb_sm_succ, h]; rfl
theorem rst {a b : Nat} (ha : a < 2 ^ 30) (hb : b < 2 ^ 30) : (nI a - nI b).toInt = (a : Int) - (b : Int) := by rw [fb_subI (by rw [nI_toInt (by omega), nI_toInt (by omega)]; omega) (by rw [nI_toInt (by omega), nI_toInt (by omega)]; omega), nI_toInt (by omega), nI_toInt (by omega)]
theorem pop_lt (x : Nat) : pop x < 2 ^ 31 := Nat.lt_of_le_of_lt (cnt_le _ _) (by decide)
set_option maxRecDepth 100000 in
set_option maxHeartbeats 4000000 in
theorem c_X8_ofCode {g : GC} {d : Nat} {M : MI} {L : ML} {n c : Nat} (h2 : 2 ≤ n) (h4 : n ≤ 4) (hc : c < 2 ^ 2 ^ n) : CfI g (d + 3) yX8_ofCode cX8_ofCode 10 .int [rf g 52, .int (nI n), .int (nI c)] M L (nI (twN n c)) (kyM M (pop (c &&& 255)) (gTw n)) (L) := by
  have hc2 : c < 65536 := by have := p65 h4; omega
  have l1 := lt255 c
  have l2 := lt255 (c / 2 ^ 8)
  have k1 := key_lt l1
  have k2 := key_lt l2
  have e0 : (0 : Int32).toInt = 0 := rfl
  have hgt : 1 ≤ gTw n ∧ gTw n ≤ 256 := ⟨by unfold gTw; omega, by have := lt255 (2 ^ 2 ^ n - 1); unfold gTw; omega⟩
  refine cfI_of (own := RX8) (l := [some (rf g 52), some (.int (nI n)), some (.int (nI c)), none, none, none, none, none, none, none]) 7 rfl rfl rfl (Nat.le_of_ble_eq_true rfl) ?_
  refine tm_iload_2 1 rfl dX8_ofCode_0 ?_
  refine tm_sipush (255) (by decide) 4 rfl dX8_ofCode_1 ?_
  refine tm_iand 5 rfl dX8_ofCode_4 ?_
  rw [show (255 : Int32) = nI 255 from rfl, fa_and]
  refine tm_istore_3 (by decide) rfl 6 rfl dX8_ofCode_5 ?_
  refine tm_iload_2 7 rfl dX8_ofCode_6 ?_
  refine tm_bipush (8) (by decide) 9 rfl dX8_ofCode_7 ?_
  refine tm_ishr 10 rfl dX8_ofCode_9 ?_
  rw [show (8 : Int32) = nI 8 from rfl, sh_r (by omega) (by omega)]
  refine tm_sipush (255) (by decide) 13 rfl dX8_ofCode_10 ?_
  refine tm_iand 14 rfl dX8_ofCode_13 ?_
  rw [show (255 : Int32) = nI 255 from rfl, fa_and]
  refine tm_istore_4 (by decide) rfl 16 rfl dX8_ofCode_14 ?_
  refine tm_iload_3 17 rfl dX8_ofCode_16 ?_
  refine tm_callS_I (c_X8_key l1) ms_X8_key ml_X8_13 rfl rfl (Nat.le_of_ble_eq_true rfl) 20 rfl dX8_ofCode_17 ?_
  refine tm_iload_4 22 rfl dX8_ofCode_20 ?_
  refine tm_callS_I (c_X8_key l2) ms_X8_key ml_X8_13 rfl rfl (Nat.le_of_ble_eq_true rfl) 25 rfl dX8_ofCode_22 ?_
  refine tm_iadd 26 rfl dX8_ofCode_25 ?_
  rw [nI_add]
  refine tm_istore_5 (by decide) rfl 28 rfl dX8_ofCode_26 ?_
  refine tm_aload_0 29 rfl dX8_ofCode_28 ?_
  refine tm_iload_1 30 rfl dX8_ofCode_29 ?_
  refine tm_callS_I (c_X0_allYes h4) ms_X0_allYes ml_X8_17 rfl rfl (Nat.le_of_ble_eq_true rfl) 33 rfl dX8_ofCode_30 ?_
  refine tm_sipush (255) (by decide) 36 rfl dX8_ofCode_33 ?_
  refine tm_iand 37 rfl dX8_ofCode_36 ?_
  rw [show (255 : Int32) = nI 255 from rfl, fa_and]
  refine tm_iload_3 38 rfl dX8_ofCode_37 ?_
  refine tm_callS_I (c_J6_bitCount_0f7a4 (x := c &&& 255) (by omega)) ms_J6_bitCount_0f7a4 ml_X8_22 rfl rfl (Nat.le_of_ble_eq_true rfl) 41 rfl dX8_ofCode_38 ?_
  refine tm_callV_V (ci := 7) (c_X8_countKeys (G := gTw n) (y := pop (c &&& 255)) hgt.1 hgt.2 (pop_lt _)) mv_X8_countKeys ml_X8_27 rfl rfl rfl rfl rfl (Nat.le_of_ble_eq_true rfl) 44 rfl dX8_ofCode_41 ?_
  refine tm_iconst (0) rfl 45 rfl dX8_ofCode_44 ?_
  refine tm_istore_6 (by decide) rfl 47 rfl dX8_ofCode_45 ?_
  refine tm_iconst (0) rfl 48 rfl dX8_ofCode_47 ?_
  refine tm_istore_7 (by decide) rfl 50 rfl dX8_ofCode_48 ?_
  refine tm_loop (N := 256) (fun k => Tm g (d + 3) RX8 cX8_ofCode 10 (some .int) (QI g (nI (twN n c)) (kyM M (pop (c &&& 255)) (gTw n)) (L)) 50 [some (rf g 52), some (.int (nI n)), some (.int (nI c)), some (.int (nI (c &&& 255))), some (.int (nI (c / 2 ^ 8 &&& 255))), some (.int (nI (keyN (c &&& 255) + keyN (c / 2 ^ 8 &&& 255)))), some (.int (nI (fb_sm (fnT (gTw n) (c &&& 255) (c / 2 ^ 8 &&& 255)) k))), some (.int (nI k)), none, none] [] (kyM M (pop (c &&& 255)) (gTw n)) (L)) (fun k hk ih => ?_) ?_
  · refine tm_iload_7 52 rfl dX8_ofCode_50 ?_
    refine tm_sipush (255) (by decide) 55 rfl dX8_ofCode_52 ?_
    refine tm_icmp_gt_f 58 (fun q => by rw [fa_lt, nI_toInt (by omega)] at q; have e : (255 : Int32).toInt = 255 := rfl; omega) rfl rfl dX8_ofCode_55 ?_
    refine tm_iload_5 60 rfl dX8_ofCode_58 ?_
    refine tm_iload_7 62 rfl dX8_ofCode_60 ?_
    refine tm_callS_I (c_X8_key (x := k) (by omega)) ms_X8_key ml_X8_13 rfl rfl (Nat.le_of_ble_eq_true rfl) 65 rfl dX8_ofCode_62 ?_
    refine tm_isub 66 rfl dX8_ofCode_65 ?_
    have kk := key_lt (x := k) (by omega)
    have hr := rst (a := keyN (c &&& 255) + keyN (c / 2 ^ 8 &&& 255)) (b := keyN k) (by omega) (by omega)
    refine tm_istore_8 (by decide) rfl 68 rfl dX8_ofCode_66 ?_
    refine tm_iload_7 70 rfl dX8_ofCode_68 ?_
    refine tm_callS_I (c_J6_bitCount_0f7a4 (x := k) (by omega)) ms_J6_bitCount_0f7a4 ml_X8_22 rfl rfl (Nat.le_of_ble_eq_true rfl) 73 rfl dX8_ofCode_70 ?_
    refine tm_iload_4 75 rfl dX8_ofCode_73 ?_
    refine tm_callS_I (c_J6_bitCount_0f7a4 (x := c / 2 ^ 8 &&& 255) (by omega)) ms_J6_bitCount_0f7a4 ml_X8_22 rfl rfl (Nat.le_of_ble_eq_true rfl) 78 rfl dX8_ofCode_75 ?_
    refine tm_join2 86 (bI (decide (pop k = pop (c / 2 ^ 8 &&& 255)))) ?_ (fun hJ86 => ?_)
    · refine tm_istore_9 (by decide) rfl 88 rfl dX8_ofCode_86 ?_
      refine tm_iload_9 90 rfl dX8_ofCode_88 ?_
      refine tm_if_eq 120 93 rfl rfl dX8_ofCode_90 (fun h90 => ?_) (fun h90 => ?_)
      · refine tm_iinc_7 (nI (k + 1)) (iinc1 k) (by decide) rfl 123 rfl dX8_ofCode_120 ?_
        refine tm_goto 50 rfl dX8_ofCode_123 ?_
        refine tm_wkr ih (And.intro rfl (And.intro rfl (And.intro rfl (And.intro rfl (And.intro rfl (And.intro rfl (And.intro ?_ (And.intro rfl trivial))))))))
        first
          | (have z := hrr.1; rfl)
          | (have z : (729 : Int32) ≤ nI (keyN (c &&& 255) + keyN (c / 2 ^ 8 &&& 255)) - nI (keyN k) := h105; rw [fn_s (fn_0 (G := gTw n) (fun q => by have z2 := (fa_le _ _).mp z; have z3 : (729 : Int32).toInt = 729 := rfl; omega))])
          | (have z : nI (keyN (c &&& 255) + keyN (c / 2 ^ 8 &&& 255)) - nI (keyN k) < 0 := h95; rw [fn_s (fn_0 (G := gTw n) (fun q => by have z2 := (fa_lt _ _).mp z; omega))])
          | (have z := of_decide_eq_false ((bI_0 _).mp h90); rw [fn_s (fn_0 (G := gTw n) (fun q => z q.1))])
      · refine tm_iload_8 95 rfl dX8_ofCode_93 ?_
        refine tm_if_lt 120 98 rfl rfl dX8_ofCode_95 (fun h95 => ?_) (fun h95 => ?_)
        · refine tm_iinc_7 (nI (k + 1)) (iinc1 k) (by decide) rfl 123 rfl dX8_ofCode_120 ?_
          refine tm_goto 50 rfl dX8_ofCode_123 ?_
          refine tm_wkr ih (And.intro rfl (And.intro rfl (And.intro rfl (And.intro rfl (And.intro rfl (And.intro rfl (And.intro ?_ (And.intro rfl trivial))))))))
          first
            | (have z := hrr.1; rfl)
            | (have z : (729 : Int32) ≤ nI (keyN (c &&& 255) + keyN (c / 2 ^ 8 &&& 255)) - nI (keyN k) := h105; rw [fn_s (fn_0 (G := gTw n) (fun q => by have z2 := (fa_le _ _).mp z; have z3 : (729 : Int32).toInt = 729 := rfl; omega))])
            | (have z : nI (keyN (c &&& 255) + keyN (c / 2 ^ 8 &&& 255)) - nI (keyN k) < 0 := h95; rw [fn_s (fn_0 (G := gTw n) (fun q => by have z2 := (fa_lt _ _).mp z; omega))])
            | (have z := of_decide_eq_false ((bI_0 _).mp h90); rw [fn_s (fn_0 (G := gTw n) (fun q => z q.1))])
        · refine tm_iload_8 100 rfl dX8_ofCode_98 ?_
          refine tm_aload_0 101 rfl dX8_ofCode_100 ?_
          refine tm_getr fl_X8_9 rfl rfl 104 rfl dX8_ofCode_101 ?_
          refine tm_alenI rfl 105 rfl dX8_ofCode_104 ?_
          refine tm_icmp_ge 120 108 rfl rfl dX8_ofCode_105 (fun h105 => ?_) (fun h105 => ?_)
          · refine tm_iinc_7 (nI (k + 1)) (iinc1 k) (by decide) rfl 123 rfl dX8_ofCode_120 ?_
            refine tm_goto 50 rfl dX8_ofCode_123 ?_
            refine tm_wkr ih (And.intro rfl (And.intro rfl (And.intro rfl (And.intro rfl (And.intro rfl (And.intro rfl (And.intro ?_ (And.intro rfl trivial))))))))
            first
              | (have z := hrr.1; rfl)
              | (have z : (729 : Int32) ≤ nI (keyN (c &&& 255) + keyN (c / 2 ^ 8 &&& 255)) - nI (keyN k) := h105; rw [fn_s (fn_0 (G := gTw n) (fun q => by have z2 := (fa_le _ _).mp z; have z3 : (729 : Int32).toInt = 729 := rfl; omega))])
              | (have z : nI (keyN (c &&& 255) + keyN (c / 2 ^ 8 &&& 255)) - nI (keyN k) < 0 := h95; rw [fn_s (fn_0 (G := gTw n) (fun q => by have z2 := (fa_lt _ _).mp z; omega))])
              | (have z := of_decide_eq_false ((bI_0 _).mp h90); rw [fn_s (fn_0 (G := gTw n) (fun q => z q.1))])
          · have hpp : pop k = pop (c / 2 ^ 8 &&& 255) := of_decide_eq_true ((bI_n0 _).mp h90)
            have hrr : keyN k ≤ keyN (c &&& 255) + keyN (c / 2 ^ 8 &&& 255) ∧ keyN (c &&& 255) + keyN (c / 2 ^ 8 &&& 255) - keyN k < 729 := by
              have z1 : ¬ (nI (keyN (c &&& 255) + keyN (c / 2 ^ 8 &&& 255)) - nI (keyN k)).toInt < 0 := fun q => h95 ((fa_lt _ _).mpr q)
              have z2 : ¬ (729 : Int) ≤ (nI (keyN (c &&& 255) + keyN (c / 2 ^ 8 &&& 255)) - nI (keyN k)).toInt := fun q => h105 ((fa_le _ _).mpr q)
              omega
            refine tm_iload_6 110 rfl dX8_ofCode_108 ?_
            refine tm_aload_0 111 rfl dX8_ofCode_110 ?_
            refine tm_getr fl_X8_9 rfl rfl 114 rfl dX8_ofCode_111 ?_
            refine tm_iload_8 116 rfl dX8_ofCode_114 ?_
            rw [pk_sub hrr.1]
            refine tm_ald rfl (ix_nI hrr.2 (by decide)) 117 rfl dX8_ofCode_116 ?_
            rw [kyM_53, if_pos hrr.2]
            refine tm_iadd 118 rfl dX8_ofCode_117 ?_
            rw [nI_add, ← fn_1 (G := gTw n) (w := c &&& 255) (h := c / 2 ^ 8 &&& 255) (e := k) hpp (by omega) hrr.2]
            refine tm_istore_6 (by decide) rfl 120 rfl dX8_ofCode_118 ?_
            refine tm_iinc_7 (nI (k + 1)) (iinc1 k) (by decide) rfl 123 rfl dX8_ofCode_120 ?_
            refine tm_goto 50 rfl dX8_ofCode_123 ?_
            refine tm_wkr ih (And.intro rfl (And.intro rfl (And.intro rfl (And.intro rfl (And.intro rfl (And.intro rfl (And.intro ?_ (And.intro rfl trivial))))))))
            first
              | (have z := hrr.1; rfl)
              | (have z : (729 : Int32) ≤ nI (keyN (c &&& 255) + keyN (c / 2 ^ 8 &&& 255)) - nI (keyN k) := h105; rw [fn_s (fn_0 (G := gTw n) (fun q => by have z2 := (fa_le _ _).mp z; have z3 : (729 : Int32).toInt = 729 := rfl; omega))])
              | (have z : nI (keyN (c &&& 255) + keyN (c / 2 ^ 8 &&& 255)) - nI (keyN k) < 0 := h95; rw [fn_s (fn_0 (G := gTw n) (fun q => by have z2 := (fa_lt _ _).mp z; omega))])
              | (have z := of_decide_eq_false ((bI_0 _).mp h90); rw [fn_s (fn_0 (G := gTw n) (fun q => z q.1))])
    · refine tm_icmp_ne 85 81 rfl rfl dX8_ofCode_78 (fun h78 => ?_) (fun h78 => ?_)
      · refine tm_iconst (0) rfl 86 rfl dX8_ofCode_85 ?_
        exact tm_top (by first | (have z : nI (pop k) = nI (pop (c / 2 ^ 8 &&& 255)) := h78; rw [decide_eq_true ((nI_eq (pop_lt _) (pop_lt _)).mp z)]; rfl) | (have z : ¬ nI (pop k) = nI (pop (c / 2 ^ 8 &&& 255)) := h78; rw [decide_eq_false (fun q => z (by rw [q]))]; rfl)) hJ86
      · refine tm_iconst (1) rfl 82 rfl dX8_ofCode_81 ?_
        refine tm_goto 86 rfl dX8_ofCode_82 ?_
        exact tm_top (by first | (have z : nI (pop k) = nI (pop (c / 2 ^ 8 &&& 255)) := h78; rw [decide_eq_true ((nI_eq (pop_lt _) (pop_lt _)).mp z)]; rfl) | (have z : ¬ nI (pop k) = nI (pop (c / 2 ^ 8 &&& 255)) := h78; rw [decide_eq_false (fun q => z (by rw [q]))]; rfl)) hJ86
  · refine tm_iload_7 52 rfl dX8_ofCode_50 ?_
    refine tm_sipush (255) (by decide) 55 rfl dX8_ofCode_52 ?_
    refine tm_icmp_gt_t 126 (by decide) rfl dX8_ofCode_55 ?_
    refine tm_iload_6 128 rfl dX8_ofCode_126 ?_
    exact tm_iret (by rw [tw_eq h2 h4 hc]) rfl rfl dX8_ofCode_128

def vI (k : Nat) : Int32 := Int32.ofInt ((k : Int) - 1)
theorem vI_t {k : Nat} (h : k ≤ 100) : (vI k).toInt = (k : Int) - 1 := fb_ofI (by omega) (by omega)
theorem vI_0 : vI 0 = -1 := by decide
theorem vI_s {k : Nat} (h : k < 100) : vI k + Int32.ofInt 1 = vI (k + 1) := by
  have e : (Int32.ofInt 1).toInt = 1 := rfl
  rw [fa_eq, fb_addI (by rw [vI_t (by omega), e]; omega) (by rw [vI_t (by omega), e]; omega), vI_t (by omega), vI_t (by omega), e]
  omega
theorem vI_n {k : Nat} (h : k < 100) : vI (k + 1) = nI k := by
  rw [fa_eq, vI_t (by omega), nI_toInt (by omega)]
  omega
theorem c_X10_chowOf_k {g : GC} {d : Nat} {M : MI} {L : ML} {n : Nat} (hn : M 55 0 = nI n) (h4 : n ≤ 4) {c k : Nat} (hc : c < 2 ^ 31) (hk : k ≤ n) : CfI g (d + 1) yX10_chowOf cX10_chowOf 5 .int [rf g 54, .int (nI c), .int (vI k)] M L (nI (chO n c k)) (M) (L) := by
  cases k with
  | zero => rw [vI_0]; exact c_X10_chowOf_all hn h4 hc
  | succ v => rw [vI_n (by omega)]; exact c_X10_chowOf_v hn h4 hc (by omega)
theorem chO_lt (n c k : Nat) (h4 : n ≤ 4) : chO n c k < 2 ^ 31 := by
  have := pow4 h4
  unfold chO
  split
  · have := cnt_le c.testBit (2 ^ n); omega
  · have := cnt_le (fun q => c.testBit q && q.testBit (k - 1)) (2 ^ n); omega
theorem tw_ad {P : Nat → Bool} {k : Nat} : nI (cnt P k) + bI (P k) = nI (cnt P (k + 1)) := cnt_add P k
set_option maxRecDepth 100000 in
set_option maxHeartbeats 4000000 in
theorem c_X10_twins {g : GC} {d : Nat} {M : MI} {L : ML} {σ : AS} (hM : hasM M σ) (hσ : okS σ) : CfI g (d + 2) yX10_twins cX10_twins 5 .int [rf g 54] M L (nI (twN σ.1 σ.2.1)) (M) (L) := by
  have hn := hM.1
  have h4 := hσ.2.1
  have h16 := pow4 h4
  have hp1 := Nat.two_pow_pos σ.1
  have hc := okp hσ
  have h65 := p65 h4
  refine cfI_of (own := RX10) (l := [some (rf g 54), none, none, none, none]) 4 rfl rfl rfl (Nat.le_of_ble_eq_true rfl) ?_
  refine tm_iconst (0) rfl 1 rfl dX10_twins_0 ?_
  refine tm_istore_1 (by decide) rfl 2 rfl dX10_twins_1 ?_
  refine tm_iconst (0) rfl 3 rfl dX10_twins_2 ?_
  refine tm_istore_2 (by decide) rfl 4 rfl dX10_twins_3 ?_
  refine tm_loop (N := 2 ^ 2 ^ σ.1) (fun e => Tm g (d + 2) RX10 cX10_twins 5 (some .int) (QI g (nI (twN σ.1 σ.2.1)) (M) (L)) 4 [some (rf g 54), some (.int (nI (cnt (twP σ.1 σ.2.1) e))), some (.int (nI e)), none, none] [] (M) (L)) (fun e he ihe => ?_) ?_
  · refine tm_iload_2 5 rfl dX10_twins_4 ?_
    refine tm_aload_0 6 rfl dX10_twins_5 ?_
    refine tm_callV_I (ci := 9) (c_X10_most hn h4) mv_X10_most ml_X10_72 rfl rfl rfl rfl rfl (Nat.le_of_ble_eq_true rfl) 9 rfl dX10_twins_6 ?_
    refine tm_icmp_gt_f 12 (fun q => by rw [fa_lt, nI_toInt (by omega), nI_toInt (by omega)] at q; omega) rfl rfl dX10_twins_9 ?_
    refine tm_iconst (1) rfl 13 rfl dX10_twins_12 ?_
    refine tm_istore_3 (by decide) rfl 14 rfl dX10_twins_13 ?_
    refine tm_iconst (-1) rfl 15 rfl dX10_twins_14 ?_
    refine tm_istore_4 (by decide) rfl 17 rfl dX10_twins_15 ?_
    refine tm_loop (N := σ.1 + 1) (fun k => Tm g (d + 2) RX10 cX10_twins 5 (some .int) (QI g (nI (twN σ.1 σ.2.1)) (M) (L)) 17 [some (rf g 54), some (.int (nI (cnt (twP σ.1 σ.2.1) e))), some (.int (nI e)), some (.int (bI (twV σ.1 σ.2.1 e k))), some (.int (vI k))] [] (M) (L)) (fun k hk ih => ?_) ?_
    · refine tm_iload_4 19 rfl dX10_twins_17 ?_
      refine tm_aload_0 20 rfl dX10_twins_19 ?_
      refine tm_getr fl_X10_11 rfl rfl 23 rfl dX10_twins_20 ?_
      refine tm_iconst (0) rfl 24 rfl dX10_twins_23 ?_
      refine tm_ald rfl (ix := 0) ⟨by decide, by decide, by decide⟩ 25 rfl dX10_twins_24 ?_
      rw [hn]
      refine tm_icmp_ge_f 28 (fun q => by rw [fa_le, vI_t (by omega), nI_toInt (by omega)] at q; omega) rfl rfl dX10_twins_25 ?_
      refine tm_iload_3 29 rfl dX10_twins_28 ?_
      refine tm_if_eq 66 32 rfl rfl dX10_twins_29 (fun h29 => ?_) (fun h29 => ?_)
      · try rw [show twV σ.1 σ.2.1 e k = twP σ.1 σ.2.1 e from by rw [(bI_0 _).mp h29, twV_x (by omega) ((bI_0 _).mp h29)]]
        refine tm_iload_1 67 rfl dX10_twins_66 ?_
        refine tm_iload_3 68 rfl dX10_twins_67 ?_
        refine tm_callS_I (c_X10_bit (b := twP σ.1 σ.2.1 e)) ms_X10_bit ml_X10_90 rfl rfl (Nat.le_of_ble_eq_true rfl) 71 rfl dX10_twins_68 ?_
        refine tm_iadd 72 rfl dX10_twins_71 ?_
        refine tm_istore_1 (by decide) rfl 73 rfl dX10_twins_72 ?_
        refine tm_iinc_2 (nI (e + 1)) (iinc1 e) (by decide) rfl 76 rfl dX10_twins_73 ?_
        refine tm_goto 4 rfl dX10_twins_76 ?_
        rw [tw_ad]
        exact tm_wkr ihe (And.intro rfl (And.intro rfl (And.intro rfl trivial)))
      · refine tm_aload_0 33 rfl dX10_twins_32 ?_
        refine tm_iload_2 34 rfl dX10_twins_33 ?_
        refine tm_iload_4 36 rfl dX10_twins_34 ?_
        refine tm_callV_I (ci := 9) (c_X10_chowOf_k hn h4 (c := e) (k := k) (by omega) (by omega)) mv_X10_chowOf ml_X10_133 rfl rfl rfl rfl rfl (Nat.le_of_ble_eq_true rfl) 39 rfl dX10_twins_36 ?_
        refine tm_aload_0 40 rfl dX10_twins_39 ?_
        refine tm_aload_0 41 rfl dX10_twins_40 ?_
        refine tm_getr fl_X10_11 rfl rfl 44 rfl dX10_twins_41 ?_
        refine tm_iconst (1) rfl 45 rfl dX10_twins_44 ?_
        refine tm_ald rfl (ix := 1) ⟨by decide, by decide, by decide⟩ 46 rfl dX10_twins_45 ?_
        rw [hM.2.1]
        refine tm_iload_4 48 rfl dX10_twins_46 ?_
        refine tm_callV_I (ci := 9) (c_X10_chowOf_k hn h4 (c := σ.2.1) (k := k) (by omega) (by omega)) mv_X10_chowOf ml_X10_133 rfl rfl rfl rfl rfl (Nat.le_of_ble_eq_true rfl) 51 rfl dX10_twins_48 ?_
        refine tm_join2 59 (bI (twV σ.1 σ.2.1 e (k + 1))) ?_ (fun hJ59 => ?_)
        · refine tm_istore_3 (by decide) rfl 60 rfl dX10_twins_59 ?_
          refine tm_iinc_4 (vI (k + 1)) (vI_s (by omega)) (by decide) rfl 63 rfl dX10_twins_60 ?_
          refine tm_goto 17 rfl dX10_twins_63 ?_
          exact ih
        · refine tm_icmp_ne 58 54 rfl rfl dX10_twins_51 (fun h51 => ?_) (fun h51 => ?_)
          · refine tm_iconst (0) rfl 59 rfl dX10_twins_58 ?_
            exact tm_top (by have zf := (bI_n0 _).mp h29; unfold twV; rw [zf]; first | (have z : nI (chO σ.1 e k) = nI (chO σ.1 σ.2.1 k) := h51; rw [decide_eq_true ((nI_eq (chO_lt _ _ _ h4) (chO_lt _ _ _ h4)).mp z)]; rfl) | (have z : ¬ nI (chO σ.1 e k) = nI (chO σ.1 σ.2.1 k) := h51; rw [decide_eq_false (fun q => z (by rw [q]))]; rfl)) hJ59
          · refine tm_iconst (1) rfl 55 rfl dX10_twins_54 ?_
            refine tm_goto 59 rfl dX10_twins_55 ?_
            exact tm_top (by have zf := (bI_n0 _).mp h29; unfold twV; rw [zf]; first | (have z : nI (chO σ.1 e k) = nI (chO σ.1 σ.2.1 k) := h51; rw [decide_eq_true ((nI_eq (chO_lt _ _ _ h4) (chO_lt _ _ _ h4)).mp z)]; rfl) | (have z : ¬ nI (chO σ.1 e k) = nI (chO σ.1 σ.2.1 k) := h51; rw [decide_eq_false (fun q => z (by rw [q]))]; rfl)) hJ59
    · refine tm_iload_4 19 rfl dX10_twins_17 ?_
      refine tm_aload_0 20 rfl dX10_twins_19 ?_
      refine tm_getr fl_X10_11 rfl rfl 23 rfl dX10_twins_20 ?_
      refine tm_iconst (0) rfl 24 rfl dX10_twins_23 ?_
      refine tm_ald rfl (ix := 0) ⟨by decide, by decide, by decide⟩ 25 rfl dX10_twins_24 ?_
      rw [hn]
      refine tm_icmp_ge_t 66 (by rw [fa_le, vI_t (by omega), nI_toInt (by omega)]; omega) rfl dX10_twins_25 ?_
      try rw [show twV σ.1 σ.2.1 e k = twP σ.1 σ.2.1 e from by rw [(bI_0 _).mp h29, twV_x (by omega) ((bI_0 _).mp h29)]]
      refine tm_iload_1 67 rfl dX10_twins_66 ?_
      refine tm_iload_3 68 rfl dX10_twins_67 ?_
      refine tm_callS_I (c_X10_bit (b := twP σ.1 σ.2.1 e)) ms_X10_bit ml_X10_90 rfl rfl (Nat.le_of_ble_eq_true rfl) 71 rfl dX10_twins_68 ?_
      refine tm_iadd 72 rfl dX10_twins_71 ?_
      refine tm_istore_1 (by decide) rfl 73 rfl dX10_twins_72 ?_
      refine tm_iinc_2 (nI (e + 1)) (iinc1 e) (by decide) rfl 76 rfl dX10_twins_73 ?_
      refine tm_goto 4 rfl dX10_twins_76 ?_
      rw [tw_ad]
      exact tm_wkr ihe (And.intro rfl (And.intro rfl (And.intro rfl trivial)))
  · refine tm_iload_2 5 rfl dX10_twins_4 ?_
    refine tm_aload_0 6 rfl dX10_twins_5 ?_
    refine tm_callV_I (ci := 9) (c_X10_most hn h4) mv_X10_most ml_X10_72 rfl rfl rfl rfl rfl (Nat.le_of_ble_eq_true rfl) 9 rfl dX10_twins_6 ?_
    refine tm_icmp_gt_t 79 (by have := Nat.two_pow_pos (2 ^ σ.1); rw [fa_lt, nI_toInt (by omega), nI_toInt (by omega)]; omega) rfl dX10_twins_9 ?_
    refine tm_iload_1 80 rfl dX10_twins_79 ?_
    exact tm_iret rfl rfl rfl dX10_twins_80


theorem cnt_add (p : Nat → Bool) (k : Nat) : nI (cnt p k) + bI (p k) = nI (cnt p (k + 1)) := by
  rw [cnt_s, bI_nI, nI_add]
  cases p k <;> rfl
theorem cnt_or {p q : Nat → Bool} : ∀ {N : Nat}, (∀ k, k < N → ¬ (p k = true ∧ q k = true)) → cnt (fun k => p k || q k) N = cnt p N + cnt q N
  | 0, _ => rfl
  | N + 1, h => by
    have h1 := cnt_or (N := N) (fun k hk => h k (by omega))
    have h2 := h N (by omega)
    rw [cnt_s, cnt_s, cnt_s, h1]
    cases a : p N <;> cases b : q N <;> simp [a, b] at h2 ⊢ <;> omega
theorem cnt_16 {c N : Nat} (hN : N ≤ 16) (hc : c < 2 ^ N) : cnt c.testBit 16 = cnt c.testBit N := by
  have := cnt_hi hc (16 - N)
  rwa [show N + (16 - N) = 16 by omega] at this
theorem cnt_bits {f : Nat → Bool} {N : Nat} (hN : N ≤ 16) : cnt (bits N f).testBit 16 = cnt f N := by
  rw [cnt_16 hN (bits_lt f N)]
  exact cnt_congr (fun k hk => by rw [bits_test]; simp [hk])
/-! is it rising -/
def rsB (n c : Nat) : Bool := (List.range n).all fun v => decide (lsN n c v = 0)
theorem rs_t {n c : Nat} (h : ∀ v, v < n → lsN n c v = 0) : rsB n c = true := List.all_eq_true.mpr (fun v hv => decide_eq_true (h v (List.mem_range.mp hv)))
theorem rs_f {n c v : Nat} (hv : v < n) (h : ¬ lsN n c v = 0) : rsB n c = false := by
  cases q : rsB n c
  · rfl
  · exact absurd (of_decide_eq_true (List.all_eq_true.mp q v (List.mem_range.mpr hv))) h
theorem or_x {k v : Nat} (h : k.testBit v = false) : k ||| 2 ^ v = k ^^^ 2 ^ v := by
  apply Nat.eq_of_testBit_eq
  intro j
  rw [Nat.testBit_or, Nat.testBit_xor]
  by_cases e : v = j
  · subst e; rw [Nat.testBit_two_pow_self, h]; rfl
  · rw [Nat.testBit_two_pow_of_ne e]; simp
theorem or_s {k v : Nat} (h : k.testBit v = true) : k ||| 2 ^ v = k := by
  apply Nat.eq_of_testBit_eq
  intro j
  rw [Nat.testBit_or]
  by_cases e : v = j
  · subst e; rw [h]; rfl
  · rw [Nat.testBit_two_pow_of_ne e]; simp
theorem or_lt {n k v : Nat} (hk : k < 2 ^ n) (hv : v < n) : k ||| 2 ^ v < 2 ^ n := Nat.or_lt_two_pow hk (Nat.pow_lt_pow_right (by omega) hv)
theorem rs_no {n c k v : Nat} (hk : k < 2 ^ n) (hv : v < n) (h1 : c.testBit k = true) (h2 : c.testBit (k ||| 2 ^ v) = false) : ¬ lsN n c v = 0 := by
  intro h
  have hb : k.testBit v = false := by
    cases q : k.testBit v
    · rfl
    · rw [or_s q, h1] at h2; cases h2
  have := lsN_no h (k := k ||| 2 ^ v) (or_lt hk hv) (by rw [Nat.testBit_or, Nat.testBit_two_pow_self]; simp)
  apply this
  rw [or_x hb, Nat.xor_assoc, Nat.xor_self, Nat.xor_zero, ← or_x hb]
  exact ⟨h1, h2⟩
theorem rs_yes {n c v : Nat} (hv : v < n) (h : ∀ k, k < 2 ^ n → c.testBit k = true → c.testBit (k ||| 2 ^ v) = true) : lsN n c v = 0 := by
  rcases Classical.em (lsN n c v = 0) with q | q
  · exact q
  · obtain ⟨k, hk, hb, h1, h2⟩ := lsN_yes q
    have := h (k ^^^ 2 ^ v) (xlt hk hv) h1
    rw [or_x (by rw [tb_xs, hb]; rfl), Nat.xor_assoc, Nat.xor_self, Nat.xor_zero, h2] at this
    cases this
set_option maxRecDepth 100000 in
set_option maxHeartbeats 4000000 in
theorem c_X0_isRising {g : GC} {d : Nat} {M : MI} {L : ML} {n c : Nat} (h4 : n ≤ 4) (hc : c < 2 ^ 2 ^ n) : CfI g (d + 2) yX0_isRising cX0_isRising 3 .boolean [.int (nI n), .int (nI c)] M L (bI (rsB n c)) (M) (L) := by
  have h65 := p65 h4
  refine cfI_of (own := RX0) (l := [some (.int (nI n)), some (.int (nI c)), none]) 1 rfl rfl rfl (Nat.le_of_ble_eq_true rfl) ?_
  refine tm_iconst (0) rfl 1 rfl dX0_isRising_0 ?_
  refine tm_istore_2 (by decide) rfl 2 rfl dX0_isRising_1 ?_
  refine tm_loopE (N := n) (fun v => ∀ u, u < v → lsN n c u = 0) (fun v => Tm g (d + 2) RX0 cX0_isRising 3 (some .boolean) (QI g (bI (rsB n c)) (M) (L)) 2 [some (.int (nI n)), some (.int (nI c)), some (.int (nI v))] [] (M) (L)) (fun u hu => absurd hu (by omega)) (fun v hv hP ih => ?_) (fun hPN => ?_)
  · refine tm_iload_2 3 rfl dX0_isRising_2 ?_
    refine tm_iload_0 4 rfl dX0_isRising_3 ?_
    refine tm_icmp_ge_f 7 (nI_ge hv (by omega)) rfl rfl dX0_isRising_4 ?_
    refine tm_iload_1 8 rfl dX0_isRising_7 ?_
    refine tm_iload_2 9 rfl dX0_isRising_8 ?_
    refine tm_callS_I (c_X0_losesBy h4 hc hv) ms_X0_losesBy ml_X0_35 rfl rfl (Nat.le_of_ble_eq_true rfl) 12 rfl dX0_isRising_9 ?_
    refine tm_if_eq 17 15 rfl rfl dX0_isRising_12 (fun h12 => ?_) (fun h12 => ?_)
    · refine tm_iinc_2 (nI (v + 1)) (iinc1 v) (by decide) rfl 20 rfl dX0_isRising_17 ?_
      refine tm_goto 2 rfl dX0_isRising_20 ?_
      exact ih (lt_s1 hP ((nI_z (by have := lsN_lt n c v; omega)).mp h12))
    · refine tm_iconst (0) rfl 16 rfl dX0_isRising_15 ?_
      exact tm_zret (by decide) (by rw [rs_f hv (fun q => h12 (by rw [q]; rfl))]; rfl) rfl rfl dX0_isRising_16
  · refine tm_iload_2 3 rfl dX0_isRising_2 ?_
    refine tm_iload_0 4 rfl dX0_isRising_3 ?_
    refine tm_icmp_ge_t 23 (nI_le (Nat.le_refl _) (by omega)) rfl dX0_isRising_4 ?_
    refine tm_iconst (1) rfl 24 rfl dX0_isRising_23 ?_
    exact tm_zret (by decide) (by rw [rs_t hPN]; rfl) rfl rfl dX0_isRising_24

set_option maxRecDepth 100000 in
set_option maxHeartbeats 4000000 in
theorem c_X0_isOwnDual {g : GC} {d : Nat} {M : MI} {L : ML} {n c : Nat} (h4 : n ≤ 4) (hc : c < 2 ^ 2 ^ n) : CfI g (d + 3) yX0_isOwnDual cX0_isOwnDual 2 .boolean [.int (nI n), .int (nI c)] M L (bI (decide (dlN n c = c))) (M) (L) := by
  have h65 := p65 h4
  have hd := dlN_lt n c
  refine cfI_of (own := RX0) (l := [some (.int (nI n)), some (.int (nI c))]) 0 rfl rfl rfl (Nat.le_of_ble_eq_true rfl) ?_
  refine tm_iload_0 1 rfl dX0_isOwnDual_0 ?_
  refine tm_iload_1 2 rfl dX0_isOwnDual_1 ?_
  refine tm_callS_I (c_X0_dual h4 hc) ms_X0_dual ml_X0_32 rfl rfl (Nat.le_of_ble_eq_true rfl) 5 rfl dX0_isOwnDual_2 ?_
  refine tm_iload_1 6 rfl dX0_isOwnDual_5 ?_
  refine tm_icmp_ne 13 9 rfl rfl dX0_isOwnDual_6 (fun h6 => ?_) (fun h6 => ?_)
  · refine tm_iconst (0) rfl 14 rfl dX0_isOwnDual_13 ?_
    exact tm_zret (by decide) (by first | (rw [decide_eq_true ((nI_eq (by omega) (by omega)).mp h6)]; rfl) | (rw [decide_eq_false (fun q => h6 (by rw [q]))]; rfl)) rfl rfl dX0_isOwnDual_14
  · refine tm_iconst (1) rfl 10 rfl dX0_isOwnDual_9 ?_
    refine tm_goto 14 rfl dX0_isOwnDual_10 ?_
    exact tm_zret (by decide) (by first | (rw [decide_eq_true ((nI_eq (by omega) (by omega)).mp h6)]; rfl) | (rw [decide_eq_false (fun q => h6 (by rw [q]))]; rfl)) rfl rfl dX0_isOwnDual_14

set_option maxRecDepth 100000 in
set_option maxHeartbeats 4000000 in
theorem c_X10_isRising {g : GC} {d : Nat} {M : MI} {L : ML} {n : Nat} (hn : M 55 0 = nI n) (h4 : n ≤ 4) {c : Nat} (hc : M 55 1 = nI c) (hc2 : c < 2 ^ 2 ^ n) : CfI g (d + 1) yX10_isRising cX10_isRising 3 .boolean [rf g 54] M L (bI (rsB n c)) (M) (L) := by
  have h16 := pow4 h4
  have hp1 := Nat.two_pow_pos n
  have h65 := p65 h4
  refine cfI_of (own := RX10) (l := [some (rf g 54), none, none]) 2 rfl rfl rfl (Nat.le_of_ble_eq_true rfl) ?_
  refine tm_iconst (0) rfl 1 rfl dX10_isRising_0 ?_
  refine tm_istore_1 (by decide) rfl 2 rfl dX10_isRising_1 ?_
  refine tm_loopE (N := 2 ^ n) (fun k => ∀ q, q < k → ∀ v, v < n → c.testBit q = true → c.testBit (q ||| 2 ^ v) = true) (fun k => Tm g (d + 1) RX10 cX10_isRising 3 (some .boolean) (QI g (bI (rsB n c)) (M) (L)) 2 [some (rf g 54), some (.int (nI k)), none] [] (M) (L)) (fun u hu => absurd hu (by omega)) (fun k hk hP ih => ?_) (fun hPN => ?_)
  · refine tm_iload_1 3 rfl dX10_isRising_2 ?_
    refine tm_aload_0 4 rfl dX10_isRising_3 ?_
    refine tm_callV_I (ci := 9) (c_X10_lots hn h4) mv_X10_lots ml_X10_56 rfl rfl rfl rfl rfl (Nat.le_of_ble_eq_true rfl) 7 rfl dX10_isRising_4 ?_
    refine tm_icmp_ge_f 10 (nI_ge hk (by omega)) rfl rfl dX10_isRising_7 ?_
    refine tm_iconst (0) rfl 11 rfl dX10_isRising_10 ?_
    refine tm_istore_2 (by decide) rfl 12 rfl dX10_isRising_11 ?_
    refine tm_loopE (N := n) (fun v => ∀ u, u < v → c.testBit k = true → c.testBit (k ||| 2 ^ u) = true) (fun v => Tm g (d + 1) RX10 cX10_isRising 3 (some .boolean) (QI g (bI (rsB n c)) (M) (L)) 12 [some (rf g 54), some (.int (nI k)), some (.int (nI v))] [] (M) (L)) (fun u hu => absurd hu (by omega)) (fun v hv hQ ih2 => ?_) (fun hQN => ?_)
    · refine tm_iload_2 13 rfl dX10_isRising_12 ?_
      refine tm_aload_0 14 rfl dX10_isRising_13 ?_
      refine tm_getr fl_X10_11 rfl rfl 17 rfl dX10_isRising_14 ?_
      refine tm_iconst (0) rfl 18 rfl dX10_isRising_17 ?_
      refine tm_ald rfl (ix := 0) ⟨by decide, by decide, by decide⟩ 19 rfl dX10_isRising_18 ?_
      rw [hn]
      refine tm_icmp_ge_f 22 (nI_ge hv (by omega)) rfl rfl dX10_isRising_19 ?_
      refine tm_aload_0 23 rfl dX10_isRising_22 ?_
      refine tm_getr fl_X10_11 rfl rfl 26 rfl dX10_isRising_23 ?_
      refine tm_iconst (1) rfl 27 rfl dX10_isRising_26 ?_
      refine tm_ald rfl (ix := 1) ⟨by decide, by decide, by decide⟩ 28 rfl dX10_isRising_27 ?_
      rw [hc]
      refine tm_iload_1 29 rfl dX10_isRising_28 ?_
      refine tm_callS_I (c_X10_is (c := c) (k := k) (by omega) (by omega)) ms_X10_is ml_X10_97 rfl rfl (Nat.le_of_ble_eq_true rfl) 32 rfl dX10_isRising_29 ?_
      refine tm_if_eqB 54 35 rfl rfl dX10_isRising_32 (fun h32 => ?_) (fun h32 => ?_)
      · refine tm_iinc_2 (nI (v + 1)) (iinc1 v) (by decide) rfl 57 rfl dX10_isRising_54 ?_
        refine tm_goto 12 rfl dX10_isRising_57 ?_
        exact ih2 (lt_s1 hQ (fun z => by first | exact h49 | (rw [h32] at z; cases z)))
      · refine tm_aload_0 36 rfl dX10_isRising_35 ?_
        refine tm_getr fl_X10_11 rfl rfl 39 rfl dX10_isRising_36 ?_
        refine tm_iconst (1) rfl 40 rfl dX10_isRising_39 ?_
        refine tm_ald rfl (ix := 1) ⟨by decide, by decide, by decide⟩ 41 rfl dX10_isRising_40 ?_
        rw [hc]
        refine tm_iload_1 42 rfl dX10_isRising_41 ?_
        refine tm_iconst (1) rfl 43 rfl dX10_isRising_42 ?_
        refine tm_iload_2 44 rfl dX10_isRising_43 ?_
        refine tm_ishl 45 rfl dX10_isRising_44 ?_
        refine tm_ior 46 rfl dX10_isRising_45 ?_
        rw [sh_1 v (by omega), fa_or]
        refine tm_callS_I (c_X10_is (c := c) (k := k ||| 2 ^ v) (by omega) (by have := or_lt hk hv; omega)) ms_X10_is ml_X10_97 rfl rfl (Nat.le_of_ble_eq_true rfl) 49 rfl dX10_isRising_46 ?_
        refine tm_if_neB 54 52 rfl rfl dX10_isRising_49 (fun h49 => ?_) (fun h49 => ?_)
        · refine tm_iinc_2 (nI (v + 1)) (iinc1 v) (by decide) rfl 57 rfl dX10_isRising_54 ?_
          refine tm_goto 12 rfl dX10_isRising_57 ?_
          exact ih2 (lt_s1 hQ (fun z => by first | exact h49 | (rw [h32] at z; cases z)))
        · refine tm_iconst (0) rfl 53 rfl dX10_isRising_52 ?_
          exact tm_zret (by decide) (by rw [rs_f hv (rs_no hk hv h32 h49)]; rfl) rfl rfl dX10_isRising_53
    · refine tm_iload_2 13 rfl dX10_isRising_12 ?_
      refine tm_aload_0 14 rfl dX10_isRising_13 ?_
      refine tm_getr fl_X10_11 rfl rfl 17 rfl dX10_isRising_14 ?_
      refine tm_iconst (0) rfl 18 rfl dX10_isRising_17 ?_
      refine tm_ald rfl (ix := 0) ⟨by decide, by decide, by decide⟩ 19 rfl dX10_isRising_18 ?_
      rw [hn]
      refine tm_icmp_ge_t 60 (nI_le (Nat.le_refl _) (by omega)) rfl dX10_isRising_19 ?_
      refine tm_iinc_1 (nI (k + 1)) (iinc1 k) (by decide) rfl 63 rfl dX10_isRising_60 ?_
      refine tm_goto 2 rfl dX10_isRising_63 ?_
      exact tm_wkr (ih (lt_s1 hP hQN)) (And.intro rfl (And.intro rfl trivial))
  · refine tm_iload_1 3 rfl dX10_isRising_2 ?_
    refine tm_aload_0 4 rfl dX10_isRising_3 ?_
    refine tm_callV_I (ci := 9) (c_X10_lots hn h4) mv_X10_lots ml_X10_56 rfl rfl rfl rfl rfl (Nat.le_of_ble_eq_true rfl) 7 rfl dX10_isRising_4 ?_
    refine tm_icmp_ge_t 66 (nI_le (Nat.le_refl _) (by omega)) rfl dX10_isRising_7 ?_
    refine tm_iconst (1) rfl 67 rfl dX10_isRising_66 ?_
    exact tm_zret (by decide) (by rw [rs_t (fun v hv => rs_yes hv (fun k hk hck => hPN k hk v hv hck))]; rfl) rfl rfl dX10_isRising_67

/-! least lots -/
def ywB (c k : Nat) : Bool := (List.range k).any fun p => decide (p &&& k = p) && c.testBit p
theorem yw_f {c k : Nat} (h : ∀ p, p < k → ¬ (p &&& k = p ∧ c.testBit p = true)) : ywB c k = false := by
  cases q : ywB c k
  · rfl
  · obtain ⟨p, hp, hh⟩ := List.any_eq_true.mp q
    rw [Bool.and_eq_true, decide_eq_true_eq] at hh
    exact absurd hh (h p (List.mem_range.mp hp))
theorem yw_t {c k p : Nat} (hp : p < k) (h : p &&& k = p) (h2 : c.testBit p = true) : ywB c k = true := List.any_eq_true.mpr ⟨p, List.mem_range.mpr hp, by rw [h2, decide_eq_true h]; rfl⟩
def llB (c k : Nat) : Bool := c.testBit k && !ywB c k
def llN (n c : Nat) : Nat := bits (2 ^ n) (llB c)
set_option maxRecDepth 100000 in
set_option maxHeartbeats 4000000 in
theorem c_X0_hasYesWithin {g : GC} {d : Nat} {M : MI} {L : ML} {c k : Nat} (hc : c < 2 ^ 31) (hk : k < 16) : CfI g (d + 1) yX0_hasYesWithin cX0_hasYesWithin 3 .boolean [.int (nI c), .int (nI k)] M L (bI (ywB c k)) (M) (L) := by
  refine cfI_of (own := RX0) (l := [some (.int (nI c)), some (.int (nI k)), none]) 1 rfl rfl rfl (Nat.le_of_ble_eq_true rfl) ?_
  refine tm_iconst (0) rfl 1 rfl dX0_hasYesWithin_0 ?_
  refine tm_istore_2 (by decide) rfl 2 rfl dX0_hasYesWithin_1 ?_
  refine tm_loopE (N := k) (fun p => ∀ q, q < p → ¬ (q &&& k = q ∧ c.testBit q = true)) (fun p => Tm g (d + 1) RX0 cX0_hasYesWithin 3 (some .boolean) (QI g (bI (ywB c k)) (M) (L)) 2 [some (.int (nI c)), some (.int (nI k)), some (.int (nI p))] [] (M) (L)) (fun u hu => absurd hu (by omega)) (fun p hp hP ih => ?_) (fun hPN => ?_)
  · refine tm_iload_2 3 rfl dX0_hasYesWithin_2 ?_
    refine tm_iload_1 4 rfl dX0_hasYesWithin_3 ?_
    refine tm_icmp_ge_f 7 (nI_ge hp (by omega)) rfl rfl dX0_hasYesWithin_4 ?_
    refine tm_iload_2 8 rfl dX0_hasYesWithin_7 ?_
    refine tm_iload_1 9 rfl dX0_hasYesWithin_8 ?_
    refine tm_iand 10 rfl dX0_hasYesWithin_9 ?_
    rw [fa_and]
    refine tm_iload_2 11 rfl dX0_hasYesWithin_10 ?_
    refine tm_icmp_ne 25 14 rfl rfl dX0_hasYesWithin_11 (fun h11 => ?_) (fun h11 => ?_)
    · refine tm_iinc_2 (nI (p + 1)) (iinc1 p) (by decide) rfl 28 rfl dX0_hasYesWithin_25 ?_
      refine tm_goto 2 rfl dX0_hasYesWithin_28 ?_
      exact ih (lt_s1 hP (fun z => by first | exact h11 (by rw [z.1]) | (rw [(bI_n1 _).mp h20] at z; exact absurd z.2 (by decide))))
    · refine tm_iload_0 15 rfl dX0_hasYesWithin_14 ?_
      refine tm_iload_2 16 rfl dX0_hasYesWithin_15 ?_
      refine tm_callS_I (c_X0_says hc (k := p) (by omega)) ms_X0_says ml_X0_47 rfl rfl (Nat.le_of_ble_eq_true rfl) 19 rfl dX0_hasYesWithin_16 ?_
      refine tm_iconst (1) rfl 20 rfl dX0_hasYesWithin_19 ?_
      refine tm_icmp_ne 25 23 rfl rfl dX0_hasYesWithin_20 (fun h20 => ?_) (fun h20 => ?_)
      · refine tm_iinc_2 (nI (p + 1)) (iinc1 p) (by decide) rfl 28 rfl dX0_hasYesWithin_25 ?_
        refine tm_goto 2 rfl dX0_hasYesWithin_28 ?_
        exact ih (lt_s1 hP (fun z => by first | exact h11 (by rw [z.1]) | (rw [(bI_n1 _).mp h20] at z; exact absurd z.2 (by decide))))
      · refine tm_iconst (1) rfl 24 rfl dX0_hasYesWithin_23 ?_
        exact tm_zret (by decide) (by rw [yw_t hp ((nI_eq (by have : p &&& k ≤ p := Nat.and_le_left; omega) (by omega)).mp h11) ((bI_1 _).mp h20)]; rfl) rfl rfl dX0_hasYesWithin_24
  · refine tm_iload_2 3 rfl dX0_hasYesWithin_2 ?_
    refine tm_iload_1 4 rfl dX0_hasYesWithin_3 ?_
    refine tm_icmp_ge_t 31 (nI_le (Nat.le_refl _) (by omega)) rfl dX0_hasYesWithin_4 ?_
    refine tm_iconst (0) rfl 32 rfl dX0_hasYesWithin_31 ?_
    exact tm_zret (by decide) (by rw [yw_f hPN]; rfl) rfl rfl dX0_hasYesWithin_32

set_option maxRecDepth 100000 in
set_option maxHeartbeats 4000000 in
theorem c_X0_leastOnes {g : GC} {d : Nat} {M : MI} {L : ML} {n c : Nat} (h4 : n ≤ 4) (hc : c < 2 ^ 31) : CfI g (d + 2) yX0_leastOnes cX0_leastOnes 4 .int [.int (nI n), .int (nI c)] M L (nI (llN n c)) (M) (L) := by
  have h16 := pow4 h4
  refine cfI_of (own := RX0) (l := [some (.int (nI n)), some (.int (nI c)), none, none]) 2 rfl rfl rfl (Nat.le_of_ble_eq_true rfl) ?_
  refine tm_iconst (0) rfl 1 rfl dX0_leastOnes_0 ?_
  refine tm_istore_2 (by decide) rfl 2 rfl dX0_leastOnes_1 ?_
  refine tm_iconst (0) rfl 3 rfl dX0_leastOnes_2 ?_
  refine tm_istore_3 (by decide) rfl 4 rfl dX0_leastOnes_3 ?_
  refine tm_loop (N := 2 ^ n) (fun k => Tm g (d + 2) RX0 cX0_leastOnes 4 (some .int) (QI g (nI (llN n c)) (M) (L)) 4 [some (.int (nI n)), some (.int (nI c)), some (.int (nI (bits k (llB c)))), some (.int (nI k))] [] (M) (L)) (fun k hk ih => ?_) ?_
  · refine tm_iload_3 5 rfl dX0_leastOnes_4 ?_
    refine tm_iconst (1) rfl 6 rfl dX0_leastOnes_5 ?_
    refine tm_iload_0 7 rfl dX0_leastOnes_6 ?_
    refine tm_ishl 8 rfl dX0_leastOnes_7 ?_
    rw [sh_1 n (by omega)]
    refine tm_icmp_ge_f 11 (nI_ge hk (by omega)) rfl rfl dX0_leastOnes_8 ?_
    refine tm_iload_1 12 rfl dX0_leastOnes_11 ?_
    refine tm_iload_3 13 rfl dX0_leastOnes_12 ?_
    refine tm_callS_I (c_X0_says hc (k := k) (by omega)) ms_X0_says ml_X0_47 rfl rfl (Nat.le_of_ble_eq_true rfl) 16 rfl dX0_leastOnes_13 ?_
    refine tm_iconst (1) rfl 17 rfl dX0_leastOnes_16 ?_
    refine tm_icmp_ne 34 20 rfl rfl dX0_leastOnes_17 (fun h17 => ?_) (fun h17 => ?_)
    · refine tm_iinc_3 (nI (k + 1)) (iinc1 k) (by decide) rfl 37 rfl dX0_leastOnes_34 ?_
      refine tm_goto 4 rfl dX0_leastOnes_37 ?_
      first
        | (have e : bits (k + 1) (llB c) = bits k (llB c) ||| 2 ^ k := by
             show _ ||| (if llB c k = true then _ else _) = _
             rw [if_pos (by unfold llB; rw [(bI_1 _).mp h17, h25]; rfl)]
           rw [e] at ih; exact ih)
        | (have e : bits (k + 1) (llB c) = bits k (llB c) := by
             show _ ||| (if llB c k = true then _ else _) = _
             rw [if_neg (by unfold llB; first | (rw [(bI_n1 _).mp h17]; simp) | (rw [h25]; simp)), Nat.or_zero]
           rw [e] at ih; exact ih)
    · refine tm_iload_1 21 rfl dX0_leastOnes_20 ?_
      refine tm_iload_3 22 rfl dX0_leastOnes_21 ?_
      refine tm_callS_I (c_X0_hasYesWithin hc (k := k) (by omega)) ms_X0_hasYesWithin ml_X0_50 rfl rfl (Nat.le_of_ble_eq_true rfl) 25 rfl dX0_leastOnes_22 ?_
      refine tm_if_neB 34 28 rfl rfl dX0_leastOnes_25 (fun h25 => ?_) (fun h25 => ?_)
      · refine tm_iinc_3 (nI (k + 1)) (iinc1 k) (by decide) rfl 37 rfl dX0_leastOnes_34 ?_
        refine tm_goto 4 rfl dX0_leastOnes_37 ?_
        first
          | (have e : bits (k + 1) (llB c) = bits k (llB c) ||| 2 ^ k := by
               show _ ||| (if llB c k = true then _ else _) = _
               rw [if_pos (by unfold llB; rw [(bI_1 _).mp h17, h25]; rfl)]
             rw [e] at ih; exact ih)
          | (have e : bits (k + 1) (llB c) = bits k (llB c) := by
               show _ ||| (if llB c k = true then _ else _) = _
               rw [if_neg (by unfold llB; first | (rw [(bI_n1 _).mp h17]; simp) | (rw [h25]; simp)), Nat.or_zero]
             rw [e] at ih; exact ih)
      · refine tm_iload_2 29 rfl dX0_leastOnes_28 ?_
        refine tm_iconst (1) rfl 30 rfl dX0_leastOnes_29 ?_
        refine tm_iload_3 31 rfl dX0_leastOnes_30 ?_
        refine tm_ishl 32 rfl dX0_leastOnes_31 ?_
        refine tm_ior 33 rfl dX0_leastOnes_32 ?_
        rw [sh_1 k (by omega), fa_or]
        refine tm_istore_2 (by decide) rfl 34 rfl dX0_leastOnes_33 ?_
        refine tm_iinc_3 (nI (k + 1)) (iinc1 k) (by decide) rfl 37 rfl dX0_leastOnes_34 ?_
        refine tm_goto 4 rfl dX0_leastOnes_37 ?_
        first
          | (have e : bits (k + 1) (llB c) = bits k (llB c) ||| 2 ^ k := by
               show _ ||| (if llB c k = true then _ else _) = _
               rw [if_pos (by unfold llB; rw [(bI_1 _).mp h17, h25]; rfl)]
             rw [e] at ih; exact ih)
          | (have e : bits (k + 1) (llB c) = bits k (llB c) := by
               show _ ||| (if llB c k = true then _ else _) = _
               rw [if_neg (by unfold llB; first | (rw [(bI_n1 _).mp h17]; simp) | (rw [h25]; simp)), Nat.or_zero]
             rw [e] at ih; exact ih)
  · refine tm_iload_3 5 rfl dX0_leastOnes_4 ?_
    refine tm_iconst (1) rfl 6 rfl dX0_leastOnes_5 ?_
    refine tm_iload_0 7 rfl dX0_leastOnes_6 ?_
    refine tm_ishl 8 rfl dX0_leastOnes_7 ?_
    rw [sh_1 n (by omega)]
    refine tm_icmp_ge_t 40 (nI_le (Nat.le_refl _) (by omega)) rfl dX0_leastOnes_8 ?_
    refine tm_iload_2 41 rfl dX0_leastOnes_40 ?_
    exact tm_iret rfl rfl rfl dX0_leastOnes_41

theorem sub_f : ∀ p, p < 16 → ∀ k, k < 16 → ((nI p &&& (nI k ^^^ (-1))) = 0 ↔ p &&& k = p) := by decide +kernel
set_option maxRecDepth 100000 in
set_option maxHeartbeats 4000000 in
theorem c_X10_isLeastLot {g : GC} {d : Nat} {M : MI} {L : ML} {n : Nat} (hn : M 55 0 = nI n) (h4 : n ≤ 4) {c k : Nat} (hc : M 55 1 = nI c) (hc2 : c < 2 ^ 31) (hk : k < 16) : CfI g (d + 1) yX10_isLeastLot cX10_isLeastLot 3 .boolean [rf g 54, .int (nI k)] M L (bI (llB c k)) (M) (L) := by
  refine cfI_of (own := RX10) (l := [some (rf g 54), some (.int (nI k)), none]) 1 rfl rfl rfl (Nat.le_of_ble_eq_true rfl) ?_
  refine tm_aload_0 1 rfl dX10_isLeastLot_0 ?_
  refine tm_getr fl_X10_11 rfl rfl 4 rfl dX10_isLeastLot_1 ?_
  refine tm_iconst (1) rfl 5 rfl dX10_isLeastLot_4 ?_
  refine tm_ald rfl (ix := 1) ⟨by decide, by decide, by decide⟩ 6 rfl dX10_isLeastLot_5 ?_
  rw [hc]
  refine tm_iload_1 7 rfl dX10_isLeastLot_6 ?_
  refine tm_callS_I (c_X10_is hc2 (k := k) (by omega)) ms_X10_is ml_X10_97 rfl rfl (Nat.le_of_ble_eq_true rfl) 10 rfl dX10_isLeastLot_7 ?_
  refine tm_if_neB 15 13 rfl rfl dX10_isLeastLot_10 (fun h10 => ?_) (fun h10 => ?_)
  · refine tm_iconst (0) rfl 16 rfl dX10_isLeastLot_15 ?_
    refine tm_istore_2 (by decide) rfl 17 rfl dX10_isLeastLot_16 ?_
    refine tm_loopE (N := k) (fun p => ∀ q, q < p → ¬ (q &&& k = q ∧ c.testBit q = true)) (fun p => Tm g (d + 1) RX10 cX10_isLeastLot 3 (some .boolean) (QI g (bI (llB c k)) (M) (L)) 17 [some (rf g 54), some (.int (nI k)), some (.int (nI p))] [] (M) (L)) (fun u hu => absurd hu (by omega)) (fun p hp hP ih => ?_) (fun hPN => ?_)
    · refine tm_iload_2 18 rfl dX10_isLeastLot_17 ?_
      refine tm_iload_1 19 rfl dX10_isLeastLot_18 ?_
      refine tm_icmp_ge_f 22 (nI_ge hp (by omega)) rfl rfl dX10_isLeastLot_19 ?_
      refine tm_iload_2 23 rfl dX10_isLeastLot_22 ?_
      refine tm_iload_1 24 rfl dX10_isLeastLot_23 ?_
      refine tm_iconst (-1) rfl 25 rfl dX10_isLeastLot_24 ?_
      refine tm_ixor 26 rfl dX10_isLeastLot_25 ?_
      refine tm_iand 27 rfl dX10_isLeastLot_26 ?_
      refine tm_if_ne 45 30 rfl rfl dX10_isLeastLot_27 (fun h27 => ?_) (fun h27 => ?_)
      · refine tm_iinc_2 (nI (p + 1)) (iinc1 p) (by decide) rfl 48 rfl dX10_isLeastLot_45 ?_
        refine tm_goto 17 rfl dX10_isLeastLot_48 ?_
        exact ih (lt_s1 hP (fun z => by first | exact h27 ((sub_f p (by omega) k hk).mpr z.1) | (rw [h40] at z; exact absurd z.2 (by decide))))
      · refine tm_aload_0 31 rfl dX10_isLeastLot_30 ?_
        refine tm_getr fl_X10_11 rfl rfl 34 rfl dX10_isLeastLot_31 ?_
        refine tm_iconst (1) rfl 35 rfl dX10_isLeastLot_34 ?_
        refine tm_ald rfl (ix := 1) ⟨by decide, by decide, by decide⟩ 36 rfl dX10_isLeastLot_35 ?_
        rw [hc]
        refine tm_iload_2 37 rfl dX10_isLeastLot_36 ?_
        refine tm_callS_I (c_X10_is hc2 (k := p) (by omega)) ms_X10_is ml_X10_97 rfl rfl (Nat.le_of_ble_eq_true rfl) 40 rfl dX10_isLeastLot_37 ?_
        refine tm_if_eqB 45 43 rfl rfl dX10_isLeastLot_40 (fun h40 => ?_) (fun h40 => ?_)
        · refine tm_iinc_2 (nI (p + 1)) (iinc1 p) (by decide) rfl 48 rfl dX10_isLeastLot_45 ?_
          refine tm_goto 17 rfl dX10_isLeastLot_48 ?_
          exact ih (lt_s1 hP (fun z => by first | exact h27 ((sub_f p (by omega) k hk).mpr z.1) | (rw [h40] at z; exact absurd z.2 (by decide))))
        · refine tm_iconst (0) rfl 44 rfl dX10_isLeastLot_43 ?_
          exact tm_zret (by decide) (by unfold llB; rw [yw_t hp ((sub_f p (by omega) k hk).mp h27) h40, Bool.not_true, Bool.and_false]; rfl) rfl rfl dX10_isLeastLot_44
    · refine tm_iload_2 18 rfl dX10_isLeastLot_17 ?_
      refine tm_iload_1 19 rfl dX10_isLeastLot_18 ?_
      refine tm_icmp_ge_t 51 (nI_le (Nat.le_refl _) (by omega)) rfl dX10_isLeastLot_19 ?_
      refine tm_iconst (1) rfl 52 rfl dX10_isLeastLot_51 ?_
      exact tm_zret (by decide) (by unfold llB; rw [h10, yw_f hPN]; rfl) rfl rfl dX10_isLeastLot_52
  · refine tm_iconst (0) rfl 14 rfl dX10_isLeastLot_13 ?_
    exact tm_zret (by decide) (by unfold llB; rw [h10]; rfl) rfl rfl dX10_isLeastLot_14

/-- the first lot at which i least ones stand ahead -/
def nthP (c : Nat) (i : Int32) (k : Nat) : Bool := llB c k && decide (nI (cnt (llB c) k) = i)
def nthL (n c : Nat) (i : Int32) : Int32 := if fa_first (nthP c i) (2 ^ n) < 2 ^ n then nI (fa_first (nthP c i) (2 ^ n)) else -5
theorem first_eq {p : Nat → Bool} {N k : Nat} (hk : k < N) (h : p k = true) (h2 : ∀ j, j < k → p j = false) : fa_first p N = k := by
  rcases Nat.lt_trichotomy (fa_first p N) k with q | q | q
  · have := fa_first_yes p N (by omega)
    rw [h2 _ q] at this; cases this
  · exact q
  · have := fa_first_no p N k q
    rw [h] at this; cases this
theorem first_no {p : Nat → Bool} {N : Nat} (h : ∀ j, j < N → p j = false) : ¬ fa_first p N < N := fun q => by
  have := fa_first_yes p N q
  rw [h _ q] at this; cases this
theorem nth_1 {n c k : Nat} {i : Int32} (hk : k < 2 ^ n) (h : llB c k = true) (h2 : nI (cnt (llB c) k) = i) (hP : ∀ j, j < k → nthP c i j = false) : nI k = nthL n c i := by
  have e := first_eq hk (show nthP c i k = true by unfold nthP; rw [h, decide_eq_true h2]; rfl) hP
  unfold nthL
  rw [e, if_pos hk]
theorem nth_2 {n c : Nat} {i : Int32} (hP : ∀ j, j < 2 ^ n → nthP c i j = false) : (-5 : Int32) = nthL n c i := by
  unfold nthL
  rw [if_neg (first_no hP)]
theorem nth_3 {c k : Nat} {i : Int32} (h : llB c k = false) : nthP c i k = false := by unfold nthP; rw [h]; rfl
theorem nth_4 {c k : Nat} {i : Int32} (h : ¬ nI (cnt (llB c) k) = i) : nthP c i k = false := by unfold nthP; rw [decide_eq_false h, Bool.and_false]
theorem cnt_y {c k : Nat} (h : llB c k = true) : nI (cnt (llB c) k) + Int32.ofInt 1 = nI (cnt (llB c) (k + 1)) := by rw [iinc1, cnt_s, h]; rfl
theorem cnt_n {c k : Nat} (h : llB c k = false) : cnt (llB c) (k + 1) = cnt (llB c) k := by rw [cnt_s, h]; rfl
set_option maxRecDepth 100000 in
set_option maxHeartbeats 4000000 in
theorem c_X10_nthLeast {g : GC} {d : Nat} {M : MI} {L : ML} {n : Nat} (hn : M 55 0 = nI n) (h4 : n ≤ 4) {c : Nat} {i : Int32} (hc : M 55 1 = nI c) (hc2 : c < 2 ^ 31) (hi : ¬ i < 0) : CfI g (d + 2) yX10_nthLeast cX10_nthLeast 4 .int [rf g 54, .int i] M L (nthL n c i) (M) (L) := by
  have h16 := pow4 h4
  have hp1 := Nat.two_pow_pos n
  refine cfI_of (own := RX10) (l := [some (rf g 54), some (.int i), none, none]) 2 rfl rfl rfl (Nat.le_of_ble_eq_true rfl) ?_
  refine tm_iconst (0) rfl 1 rfl dX10_nthLeast_0 ?_
  refine tm_istore_2 (by decide) rfl 2 rfl dX10_nthLeast_1 ?_
  refine tm_iconst (0) rfl 3 rfl dX10_nthLeast_2 ?_
  refine tm_istore_3 (by decide) rfl 4 rfl dX10_nthLeast_3 ?_
  refine tm_loopE (N := 2 ^ n) (fun k => ∀ j, j < k → nthP c i j = false) (fun k => Tm g (d + 2) RX10 cX10_nthLeast 4 (some .int) (QI g (nthL n c i) (M) (L)) 4 [some (rf g 54), some (.int i), some (.int (nI (cnt (llB c) k))), some (.int (nI k))] [] (M) (L)) (fun u hu => absurd hu (by omega)) (fun k hk hP ih => ?_) (fun hPN => ?_)
  · refine tm_iload_3 5 rfl dX10_nthLeast_4 ?_
    refine tm_aload_0 6 rfl dX10_nthLeast_5 ?_
    refine tm_callV_I (ci := 9) (c_X10_lots hn h4) mv_X10_lots ml_X10_56 rfl rfl rfl rfl rfl (Nat.le_of_ble_eq_true rfl) 9 rfl dX10_nthLeast_6 ?_
    refine tm_icmp_ge_f 12 (nI_ge hk (by omega)) rfl rfl dX10_nthLeast_9 ?_
    refine tm_aload_0 13 rfl dX10_nthLeast_12 ?_
    refine tm_iload_3 14 rfl dX10_nthLeast_13 ?_
    refine tm_callV_I (ci := 9) (c_X10_isLeastLot hn h4 hc hc2 (k := k) (by omega)) mv_X10_isLeastLot ml_X10_136 rfl rfl rfl rfl rfl (Nat.le_of_ble_eq_true rfl) 17 rfl dX10_nthLeast_14 ?_
    refine tm_if_eqB 30 20 rfl rfl dX10_nthLeast_17 (fun h17 => ?_) (fun h17 => ?_)
    · refine tm_iinc_3 (nI (k + 1)) (iinc1 k) (by decide) rfl 33 rfl dX10_nthLeast_30 ?_
      refine tm_goto 4 rfl dX10_nthLeast_33 ?_
      first
        | (have e := cnt_n (c := c) (k := k) h17
           have ih := ih (lt_s1 hP (nth_3 h17))
           rw [e] at ih; exact ih)
        | exact ih (lt_s1 hP (nth_4 h22))
    · refine tm_iload_2 21 rfl dX10_nthLeast_20 ?_
      refine tm_iload_1 22 rfl dX10_nthLeast_21 ?_
      refine tm_icmp_ne 27 25 rfl rfl dX10_nthLeast_22 (fun h22 => ?_) (fun h22 => ?_)
      · refine tm_iinc_2 (nI (cnt (llB c) (k + 1))) (cnt_y h17) (by decide) rfl 30 rfl dX10_nthLeast_27 ?_
        refine tm_iinc_3 (nI (k + 1)) (iinc1 k) (by decide) rfl 33 rfl dX10_nthLeast_30 ?_
        refine tm_goto 4 rfl dX10_nthLeast_33 ?_
        first
          | (have e := cnt_n (c := c) (k := k) h17
             have ih := ih (lt_s1 hP (nth_3 h17))
             rw [e] at ih; exact ih)
          | exact ih (lt_s1 hP (nth_4 h22))
      · refine tm_iload_3 26 rfl dX10_nthLeast_25 ?_
        exact tm_iret (nth_1 hk h17 h22 hP) rfl rfl dX10_nthLeast_26
  · refine tm_iload_3 5 rfl dX10_nthLeast_4 ?_
    refine tm_aload_0 6 rfl dX10_nthLeast_5 ?_
    refine tm_callV_I (ci := 9) (c_X10_lots hn h4) mv_X10_lots ml_X10_56 rfl rfl rfl rfl rfl (Nat.le_of_ble_eq_true rfl) 9 rfl dX10_nthLeast_6 ?_
    refine tm_icmp_ge_t 36 (nI_le (Nat.le_refl _) (by omega)) rfl dX10_nthLeast_9 ?_
    refine tm_iload_1 37 rfl dX10_nthLeast_36 ?_
    refine tm_if_ge_t 44 (by rw [fa_le]; rw [fa_lt] at hi; have e : (0 : Int32).toInt = 0 := rfl; omega) rfl dX10_nthLeast_37 ?_
    refine tm_bipush (-5) (by decide) 46 rfl dX10_nthLeast_44 ?_
    exact tm_iret (nth_2 hPN) rfl rfl dX10_nthLeast_46

theorem neg_ne {x : Nat} (hx : x < 2 ^ 31) : ¬ nI x = -1 := fun q => by
  have := congrArg Int32.toInt q
  rw [nI_toInt hx] at this
  have e : (-1 : Int32).toInt = -1 := rfl
  omega
set_option maxRecDepth 100000 in
set_option maxHeartbeats 4000000 in
theorem c_X10_nthLeast_all {g : GC} {d : Nat} {M : MI} {L : ML} {n : Nat} (hn : M 55 0 = nI n) (h4 : n ≤ 4) {c : Nat} (hc : M 55 1 = nI c) (hc2 : c < 2 ^ 31) : CfI g (d + 2) yX10_nthLeast cX10_nthLeast 4 .int [rf g 54, .int (-1)] M L (nI (cnt (llB c) (2 ^ n))) (M) (L) := by
  have h16 := pow4 h4
  have hp1 := Nat.two_pow_pos n
  refine cfI_of (own := RX10) (l := [some (rf g 54), some (.int (-1)), none, none]) 2 rfl rfl rfl (Nat.le_of_ble_eq_true rfl) ?_
  refine tm_iconst (0) rfl 1 rfl dX10_nthLeast_0 ?_
  refine tm_istore_2 (by decide) rfl 2 rfl dX10_nthLeast_1 ?_
  refine tm_iconst (0) rfl 3 rfl dX10_nthLeast_2 ?_
  refine tm_istore_3 (by decide) rfl 4 rfl dX10_nthLeast_3 ?_
  refine tm_loop (N := 2 ^ n) (fun k => Tm g (d + 2) RX10 cX10_nthLeast 4 (some .int) (QI g (nI (cnt (llB c) (2 ^ n))) (M) (L)) 4 [some (rf g 54), some (.int (-1)), some (.int (nI (cnt (llB c) k))), some (.int (nI k))] [] (M) (L)) (fun k hk ih => ?_) ?_
  · refine tm_iload_3 5 rfl dX10_nthLeast_4 ?_
    refine tm_aload_0 6 rfl dX10_nthLeast_5 ?_
    refine tm_callV_I (ci := 9) (c_X10_lots hn h4) mv_X10_lots ml_X10_56 rfl rfl rfl rfl rfl (Nat.le_of_ble_eq_true rfl) 9 rfl dX10_nthLeast_6 ?_
    refine tm_icmp_ge_f 12 (nI_ge hk (by omega)) rfl rfl dX10_nthLeast_9 ?_
    refine tm_aload_0 13 rfl dX10_nthLeast_12 ?_
    refine tm_iload_3 14 rfl dX10_nthLeast_13 ?_
    refine tm_callV_I (ci := 9) (c_X10_isLeastLot hn h4 hc hc2 (k := k) (by omega)) mv_X10_isLeastLot ml_X10_136 rfl rfl rfl rfl rfl (Nat.le_of_ble_eq_true rfl) 17 rfl dX10_nthLeast_14 ?_
    refine tm_if_eqB 30 20 rfl rfl dX10_nthLeast_17 (fun h17 => ?_) (fun h17 => ?_)
    · refine tm_iinc_3 (nI (k + 1)) (iinc1 k) (by decide) rfl 33 rfl dX10_nthLeast_30 ?_
      refine tm_goto 4 rfl dX10_nthLeast_33 ?_
      first
        | (have e := cnt_n (c := c) (k := k) h17
           rw [e] at ih; exact ih)
        | exact ih
    · refine tm_iload_2 21 rfl dX10_nthLeast_20 ?_
      refine tm_iload_1 22 rfl dX10_nthLeast_21 ?_
      refine tm_icmp_ne_t 27 (neg_ne (by have := cnt_le (llB c) k; omega)) rfl dX10_nthLeast_22 ?_
      refine tm_iinc_2 (nI (cnt (llB c) (k + 1))) (cnt_y h17) (by decide) rfl 30 rfl dX10_nthLeast_27 ?_
      refine tm_iinc_3 (nI (k + 1)) (iinc1 k) (by decide) rfl 33 rfl dX10_nthLeast_30 ?_
      refine tm_goto 4 rfl dX10_nthLeast_33 ?_
      first
        | (have e := cnt_n (c := c) (k := k) h17
           rw [e] at ih; exact ih)
        | exact ih
  · refine tm_iload_3 5 rfl dX10_nthLeast_4 ?_
    refine tm_aload_0 6 rfl dX10_nthLeast_5 ?_
    refine tm_callV_I (ci := 9) (c_X10_lots hn h4) mv_X10_lots ml_X10_56 rfl rfl rfl rfl rfl (Nat.le_of_ble_eq_true rfl) 9 rfl dX10_nthLeast_6 ?_
    refine tm_icmp_ge_t 36 (nI_le (Nat.le_refl _) (by omega)) rfl dX10_nthLeast_9 ?_
    refine tm_iload_1 37 rfl dX10_nthLeast_36 ?_
    refine tm_if_ge_f 40 (by decide) rfl rfl dX10_nthLeast_37 ?_
    refine tm_iload_2 41 rfl dX10_nthLeast_40 ?_
    refine tm_goto 46 rfl dX10_nthLeast_41 ?_
    exact tm_iret rfl rfl rfl dX10_nthLeast_46

set_option maxRecDepth 100000 in
set_option maxHeartbeats 4000000 in
theorem c_X10_leastLot {g : GC} {d : Nat} {M : MI} {L : ML} {σ : AS} (hM : hasM M σ) (hσ : okS σ) {i : Int32} : CfI g (d + 3) yX10_leastLot cX10_leastLot 2 .int [rf g 54, .int i] M L (if i < 0 then -1 else nthL σ.1 σ.2.1 i) (M) (L) := by
  have hn := hM.1
  have h4 := hσ.2.1
  have h16 := pow4 h4
  have hp1 := Nat.two_pow_pos σ.1
  have hc := okp hσ
  refine cfI_of (own := RX10) (l := [some (rf g 54), some (.int i)]) 0 rfl rfl rfl (Nat.le_of_ble_eq_true rfl) ?_
  refine tm_iload_1 1 rfl dX10_leastLot_0 ?_
  refine tm_if_ge 8 4 rfl rfl dX10_leastLot_1 (fun h1 => ?_) (fun h1 => ?_)
  · refine tm_aload_0 9 rfl dX10_leastLot_8 ?_
    refine tm_iload_1 10 rfl dX10_leastLot_9 ?_
    refine tm_callV_I (ci := 9) (c_X10_nthLeast hn h4 hM.2.1 (by omega) (fun q => (fa_of_lt q).2.1 h1)) mv_X10_nthLeast ml_X10_139 rfl rfl rfl rfl rfl (Nat.le_of_ble_eq_true rfl) 13 rfl dX10_leastLot_10 ?_
    exact tm_iret (by first | exact (if_neg (fun q => (fa_of_lt q).2.1 h1)).symm | exact (if_pos (fa_of_nle h1)).symm) rfl rfl dX10_leastLot_13
  · refine tm_iconst (-1) rfl 5 rfl dX10_leastLot_4 ?_
    refine tm_goto 13 rfl dX10_leastLot_5 ?_
    exact tm_iret (by first | exact (if_neg (fun q => (fa_of_lt q).2.1 h1)).symm | exact (if_pos (fa_of_nle h1)).symm) rfl rfl dX10_leastLot_13

theorem ll_t {n c k : Nat} (hk : k < 2 ^ n) : (llN n c).testBit k = llB c k := by unfold llN; rw [bits_test, decide_eq_true hk, Bool.true_and]
set_option maxRecDepth 100000 in
set_option maxHeartbeats 4000000 in
theorem c_X9_leastLot {g : GC} {d : Nat} {M : MI} {L : ML} {σ : AS} (hC : hasC M σ) (hσ : okS σ) {i : Int32} : CfI g (d + 3) yX9_leastLot cX9_leastLot 5 .int [rf g 0, .int i] M L (if i < 0 then -1 else nthL σ.1 σ.2.1 i) (M) (L) := by
  have hn := hC.1
  have h4 := hσ.2.1
  have h16 := pow4 h4
  have hp1 := Nat.two_pow_pos σ.1
  have hc := okp hσ
  have h65 := p65 h4
  have hll : llN σ.1 σ.2.1 < 2 ^ 2 ^ σ.1 := bits_lt _ _
  refine cfI_of (own := RX9) (l := [some (rf g 0), some (.int i), none, none, none]) 3 rfl rfl rfl (Nat.le_of_ble_eq_true rfl) ?_
  refine tm_iload_1 1 rfl dX9_leastLot_0 ?_
  refine tm_if_ge 6 4 rfl rfl dX9_leastLot_1 (fun h1 => ?_) (fun h1 => ?_)
  · refine tm_aload_0 7 rfl dX9_leastLot_6 ?_
    refine tm_getr fl_X9_12 rfl rfl 10 rfl dX9_leastLot_7 ?_
    refine tm_geti fl_X9_67 rfl rfl 13 rfl dX9_leastLot_10 ?_
    rw [hn]
    refine tm_aload_0 14 rfl dX9_leastLot_13 ?_
    refine tm_getr fl_X9_12 rfl rfl 17 rfl dX9_leastLot_14 ?_
    refine tm_geti fl_X9_82 rfl rfl 20 rfl dX9_leastLot_17 ?_
    rw [hC.2.1]
    refine tm_callS_I (c_X0_leastOnes h4 (c := σ.2.1) (by omega)) ms_X0_leastOnes ml_X9_207 rfl rfl (Nat.le_of_ble_eq_true rfl) 23 rfl dX9_leastLot_20 ?_
    refine tm_istore_2 (by decide) rfl 24 rfl dX9_leastLot_23 ?_
    refine tm_iconst (0) rfl 25 rfl dX9_leastLot_24 ?_
    refine tm_istore_3 (by decide) rfl 26 rfl dX9_leastLot_25 ?_
    refine tm_iconst (0) rfl 27 rfl dX9_leastLot_26 ?_
    refine tm_istore_4 (by decide) rfl 29 rfl dX9_leastLot_27 ?_
    refine tm_loopE (N := 2 ^ σ.1) (fun k => ∀ j, j < k → nthP σ.2.1 i j = false) (fun k => Tm g (d + 3) RX9 cX9_leastLot 5 (some .int) (QI g (if i < 0 then -1 else nthL σ.1 σ.2.1 i) (M) (L)) 29 [some (rf g 0), some (.int i), some (.int (nI (llN σ.1 σ.2.1))), some (.int (nI (cnt (llB σ.2.1) k))), some (.int (nI k))] [] (M) (L)) (fun u hu => absurd hu (by omega)) (fun k hk hP ih => ?_) (fun hPN => ?_)
    · refine tm_iload_4 31 rfl dX9_leastLot_29 ?_
      refine tm_aload_0 32 rfl dX9_leastLot_31 ?_
      refine tm_getr fl_X9_12 rfl rfl 35 rfl dX9_leastLot_32 ?_
      refine tm_callV_I (ci := 3) (c_X4_lots hC hσ) mv_X4_lots ml_X9_237 rfl rfl rfl rfl rfl (Nat.le_of_ble_eq_true rfl) 38 rfl dX9_leastLot_35 ?_
      refine tm_icmp_ge_f 41 (nI_ge hk (by omega)) rfl rfl dX9_leastLot_38 ?_
      refine tm_iload_2 42 rfl dX9_leastLot_41 ?_
      refine tm_iload_4 44 rfl dX9_leastLot_42 ?_
      refine tm_callS_I (c_X0_says (c := llN σ.1 σ.2.1) (k := k) (by omega) (by omega)) ms_X0_says ml_X9_85 rfl rfl (Nat.le_of_ble_eq_true rfl) 47 rfl dX9_leastLot_44 ?_
      rw [ll_t hk]
      refine tm_iconst (1) rfl 48 rfl dX9_leastLot_47 ?_
      refine tm_icmp_ne 62 51 rfl rfl dX9_leastLot_48 (fun h48 => ?_) (fun h48 => ?_)
      · refine tm_iinc_4 (nI (k + 1)) (iinc1 k) (by decide) rfl 65 rfl dX9_leastLot_62 ?_
        refine tm_goto 29 rfl dX9_leastLot_65 ?_
        first
          | (have e := cnt_n (c := σ.2.1) (k := k) ((bI_n1 _).mp h48)
             have ih := ih (lt_s1 hP (nth_3 ((bI_n1 _).mp h48)))
             rw [e] at ih; exact ih)
          | exact ih (lt_s1 hP (nth_4 h53))
      · refine tm_iload_3 52 rfl dX9_leastLot_51 ?_
        refine tm_iload_1 53 rfl dX9_leastLot_52 ?_
        refine tm_icmp_ne 59 56 rfl rfl dX9_leastLot_53 (fun h53 => ?_) (fun h53 => ?_)
        · refine tm_iinc_3 (nI (cnt (llB σ.2.1) (k + 1))) (cnt_y ((bI_1 _).mp h48)) (by decide) rfl 62 rfl dX9_leastLot_59 ?_
          refine tm_iinc_4 (nI (k + 1)) (iinc1 k) (by decide) rfl 65 rfl dX9_leastLot_62 ?_
          refine tm_goto 29 rfl dX9_leastLot_65 ?_
          first
            | (have e := cnt_n (c := σ.2.1) (k := k) ((bI_n1 _).mp h48)
               have ih := ih (lt_s1 hP (nth_3 ((bI_n1 _).mp h48)))
               rw [e] at ih; exact ih)
            | exact ih (lt_s1 hP (nth_4 h53))
        · refine tm_iload_4 58 rfl dX9_leastLot_56 ?_
          exact tm_iret (by rw [if_neg (fun q => (fa_of_lt q).2.1 h1)]; exact nth_1 hk ((bI_1 _).mp h48) h53 hP) rfl rfl dX9_leastLot_58
    · refine tm_iload_4 31 rfl dX9_leastLot_29 ?_
      refine tm_aload_0 32 rfl dX9_leastLot_31 ?_
      refine tm_getr fl_X9_12 rfl rfl 35 rfl dX9_leastLot_32 ?_
      refine tm_callV_I (ci := 3) (c_X4_lots hC hσ) mv_X4_lots ml_X9_237 rfl rfl rfl rfl rfl (Nat.le_of_ble_eq_true rfl) 38 rfl dX9_leastLot_35 ?_
      refine tm_icmp_ge_t 68 (nI_le (Nat.le_refl _) (by omega)) rfl dX9_leastLot_38 ?_
      refine tm_bipush (-5) (by decide) 70 rfl dX9_leastLot_68 ?_
      exact tm_iret (by rw [if_neg (fun q => (fa_of_lt q).2.1 h1)]; exact nth_2 hPN) rfl rfl dX9_leastLot_70
  · refine tm_iconst (-1) rfl 5 rfl dX9_leastLot_4 ?_
    exact tm_iret (if_pos (fa_of_nle h1)).symm rfl rfl dX9_leastLot_5


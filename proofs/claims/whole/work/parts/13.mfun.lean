def dlN (n c : Nat) : Nat := bits (2 ^ n) (fun k => !c.testBit (2 ^ n - 1 - k))
/-- the lot in which voters i and j have changed places -/
def swp (i j k : Nat) : Nat := k ^^^ (if (k.testBit i ^^ k.testBit j) then 2 ^ i ||| 2 ^ j else 0)
def chN (n c i j : Nat) : Nat := bits (2 ^ n) (fun k => c.testBit (swp i j k))
theorem bsh {k : Nat} (b : Bool) (hk : k < 31) : bI b <<< (nI k &&& 31) = nI (if b then 2 ^ k else 0) := by
  cases b
  · rw [show bI false = nI 0 from rfl, sh_l (by omega) (by simp), Nat.zero_mul]; rfl
  · rw [show bI true = (1 : Int32) from rfl, sh_1 k hk]; rfl
theorem xb1 (a b : Nat) : nI (a ^^^ b) &&& 1 = bI (decide (a % 2 = 1) ^^ decide (b % 2 = 1)) := by
  rw [show (1 : Int32) = nI 1 from rfl, fa_and, Nat.and_one_is_mod]
  have h2 : decide ((a ^^^ b) % 2 = 1) = (decide (a % 2 = 1) ^^ decide (b % 2 = 1)) := by
    have h := Nat.testBit_xor a b 0
    simp only [Nat.testBit_zero] at h
    exact h
  rw [← h2, bI_nI]
  rcases Nat.mod_two_eq_zero_or_one (a ^^^ b) with q | q <;> simp [q]
theorem dvb (k i : Nat) : decide (k / 2 ^ i % 2 = 1) = k.testBit i := Nat.testBit_eq_decide_div_mod_eq.symm
theorem swp_1 {k i j : Nat} (hk : k < 2 ^ 31) (hi : i < 31) (hj : j < 31) : ((nI k >>> (nI i &&& 31)) ^^^ (nI k >>> (nI j &&& 31))) &&& 1 = bI (k.testBit i ^^ k.testBit j) := by
  rw [sh_r hk (by omega), sh_r hk (by omega), fb_xorI, xb1, dvb, dvb]
theorem swp_2 {k i j : Nat} (b : Bool) (hi : i < 31) (hj : j < 31) : nI k ^^^ ((bI b <<< (nI i &&& 31)) ||| (bI b <<< (nI j &&& 31))) = nI (k ^^^ (if b then 2 ^ i ||| 2 ^ j else 0)) := by
  rw [bsh b hi, bsh b hj, fa_or, fb_xorI]
  cases b <;> simp
theorem swp_lt {i j k n : Nat} (hk : k < 2 ^ n) (hi : i < n) (hj : j < n) : swp i j k < 2 ^ n := by
  unfold swp
  apply Nat.xor_lt_two_pow hk
  split
  · exact Nat.or_lt_two_pow (Nat.pow_lt_pow_right (by omega) hi) (Nat.pow_lt_pow_right (by omega) hj)
  · exact Nat.two_pow_pos n
theorem dl_1 {a k : Nat} (h : k < a) : nI a - 1 - nI k = nI (a - 1 - k) := by
  rw [nI_m1 (by omega), pk_sub (by omega)]
set_option maxRecDepth 100000 in
set_option maxHeartbeats 4000000 in
theorem c_X10_dual {g : GC} {d : Nat} {M : MI} {L : ML} {n : Nat} (hn : M 55 0 = nI n) (h4 : n ≤ 4) {c : Nat} (hc : c < 2 ^ 31) : CfI g (d + 1) yX10_dual cX10_dual 4 .int [rf g 54, .int (nI c)] M L (nI (dlN n c)) (M) (L) := by
  have h16 := pow4 h4
  have hp1 := Nat.two_pow_pos n
  refine cfI_of (own := RX10) (l := [some (rf g 54), some (.int (nI c)), none, none]) 2 rfl rfl rfl (Nat.le_of_ble_eq_true rfl) ?_
  refine tm_iconst (0) rfl 1 rfl dX10_dual_0 ?_
  refine tm_istore_2 (by decide) rfl 2 rfl dX10_dual_1 ?_
  refine tm_iconst (0) rfl 3 rfl dX10_dual_2 ?_
  refine tm_istore_3 (by decide) rfl 4 rfl dX10_dual_3 ?_
  refine tm_loop (N := 2 ^ n) (fun k => Tm g (d + 1) RX10 cX10_dual 4 (some .int) (QI g (nI (dlN n c)) (M) (L)) 4 [some (rf g 54), some (.int (nI c)), some (.int (nI (bits k (fun k => !c.testBit (2 ^ n - 1 - k))))), some (.int (nI k))] [] (M) (L)) (fun k hk ih => ?_) ?_
  · refine tm_iload_3 5 rfl dX10_dual_4 ?_
    refine tm_aload_0 6 rfl dX10_dual_5 ?_
    refine tm_callV_I (ci := 9) (c_X10_lots hn h4) mv_X10_lots ml_X10_56 rfl rfl rfl rfl rfl (Nat.le_of_ble_eq_true rfl) 9 rfl dX10_dual_6 ?_
    refine tm_icmp_ge_f 12 (nI_ge hk (by omega)) rfl rfl dX10_dual_9 ?_
    refine tm_iload_2 13 rfl dX10_dual_12 ?_
    refine tm_iload_1 14 rfl dX10_dual_13 ?_
    refine tm_aload_0 15 rfl dX10_dual_14 ?_
    refine tm_callV_I (ci := 9) (c_X10_lots hn h4) mv_X10_lots ml_X10_56 rfl rfl rfl rfl rfl (Nat.le_of_ble_eq_true rfl) 18 rfl dX10_dual_15 ?_
    refine tm_iconst (1) rfl 19 rfl dX10_dual_18 ?_
    refine tm_isub 20 rfl dX10_dual_19 ?_
    refine tm_iload_3 21 rfl dX10_dual_20 ?_
    refine tm_isub 22 rfl dX10_dual_21 ?_
    rw [dl_1 hk]
    refine tm_callS_I (c_X10_is hc (k := 2 ^ n - 1 - k) (by omega)) ms_X10_is ml_X10_97 rfl rfl (Nat.le_of_ble_eq_true rfl) 25 rfl dX10_dual_22 ?_
    refine tm_join1 33 (bI (!c.testBit (2 ^ n - 1 - k))) ?_ (fun hJ33 => ?_)
    · refine tm_callS_I (c_X10_bit) ms_X10_bit ml_X10_90 rfl rfl (Nat.le_of_ble_eq_true rfl) 36 rfl dX10_dual_33 ?_
      refine tm_iload_3 37 rfl dX10_dual_36 ?_
      refine tm_ishl 38 rfl dX10_dual_37 ?_
      refine tm_ior 39 rfl dX10_dual_38 ?_
      rw [orb _ (by omega)]
      refine tm_istore_2 (by decide) rfl 40 rfl dX10_dual_39 ?_
      refine tm_iinc_3 (nI (k + 1)) (iinc1 k) (by decide) rfl 43 rfl dX10_dual_40 ?_
      refine tm_goto 4 rfl dX10_dual_43 ?_
      exact ih
    · refine tm_if_neB 32 28 rfl rfl dX10_dual_25 (fun h25 => ?_) (fun h25 => ?_)
      · refine tm_iconst (0) rfl 33 rfl dX10_dual_32 ?_
        exact tm_top (by rw [h25]; rfl) hJ33
      · refine tm_iconst (1) rfl 29 rfl dX10_dual_28 ?_
        refine tm_goto 33 rfl dX10_dual_29 ?_
        exact tm_top (by rw [h25]; rfl) hJ33
  · refine tm_iload_3 5 rfl dX10_dual_4 ?_
    refine tm_aload_0 6 rfl dX10_dual_5 ?_
    refine tm_callV_I (ci := 9) (c_X10_lots hn h4) mv_X10_lots ml_X10_56 rfl rfl rfl rfl rfl (Nat.le_of_ble_eq_true rfl) 9 rfl dX10_dual_6 ?_
    refine tm_icmp_ge_t 46 (nI_le (Nat.le_refl _) (by omega)) rfl dX10_dual_9 ?_
    refine tm_iload_2 47 rfl dX10_dual_46 ?_
    exact tm_iret rfl rfl rfl dX10_dual_47

set_option maxRecDepth 100000 in
set_option maxHeartbeats 4000000 in
theorem c_X10_changed {g : GC} {d : Nat} {M : MI} {L : ML} {n : Nat} (hn : M 55 0 = nI n) (h4 : n ≤ 4) {c i j : Nat} (hc : c < 2 ^ 31) (hi : i < n) (hj : j < n) : CfI g (d + 1) yX10_changed cX10_changed 7 .int [rf g 54, .int (nI c), .int (nI i), .int (nI j)] M L (nI (chN n c i j)) (M) (L) := by
  have h16 := pow4 h4
  have hp1 := Nat.two_pow_pos n
  refine cfI_of (own := RX10) (l := [some (rf g 54), some (.int (nI c)), some (.int (nI i)), some (.int (nI j)), none, none, none]) 3 rfl rfl rfl (Nat.le_of_ble_eq_true rfl) ?_
  refine tm_iconst (0) rfl 1 rfl dX10_changed_0 ?_
  refine tm_istore_4 (by decide) rfl 3 rfl dX10_changed_1 ?_
  refine tm_iconst (0) rfl 4 rfl dX10_changed_3 ?_
  refine tm_istore_5 (by decide) rfl 6 rfl dX10_changed_4 ?_
  refine tm_loop (N := 2 ^ n) (fun k => Tm g (d + 1) RX10 cX10_changed 7 (some .int) (QI g (nI (chN n c i j)) (M) (L)) 6 [some (rf g 54), some (.int (nI c)), some (.int (nI i)), some (.int (nI j)), some (.int (nI (bits k (fun k => c.testBit (swp i j k))))), some (.int (nI k)), none] [] (M) (L)) (fun k hk ih => ?_) ?_
  · refine tm_iload_5 8 rfl dX10_changed_6 ?_
    refine tm_aload_0 9 rfl dX10_changed_8 ?_
    refine tm_callV_I (ci := 9) (c_X10_lots hn h4) mv_X10_lots ml_X10_56 rfl rfl rfl rfl rfl (Nat.le_of_ble_eq_true rfl) 12 rfl dX10_changed_9 ?_
    refine tm_icmp_ge_f 15 (nI_ge hk (by omega)) rfl rfl dX10_changed_12 ?_
    refine tm_iload_5 17 rfl dX10_changed_15 ?_
    refine tm_iload_2 18 rfl dX10_changed_17 ?_
    refine tm_ishr 19 rfl dX10_changed_18 ?_
    refine tm_iload_5 21 rfl dX10_changed_19 ?_
    refine tm_iload_3 22 rfl dX10_changed_21 ?_
    refine tm_ishr 23 rfl dX10_changed_22 ?_
    refine tm_ixor 24 rfl dX10_changed_23 ?_
    refine tm_iconst (1) rfl 25 rfl dX10_changed_24 ?_
    refine tm_iand 26 rfl dX10_changed_25 ?_
    rw [swp_1 (by omega) (by omega) (by omega)]
    refine tm_istore_6 (by decide) rfl 28 rfl dX10_changed_26 ?_
    refine tm_iload_4 30 rfl dX10_changed_28 ?_
    refine tm_iload_1 31 rfl dX10_changed_30 ?_
    refine tm_iload_5 33 rfl dX10_changed_31 ?_
    refine tm_iload_6 35 rfl dX10_changed_33 ?_
    refine tm_iload_2 36 rfl dX10_changed_35 ?_
    refine tm_ishl 37 rfl dX10_changed_36 ?_
    refine tm_iload_6 39 rfl dX10_changed_37 ?_
    refine tm_iload_3 40 rfl dX10_changed_39 ?_
    refine tm_ishl 41 rfl dX10_changed_40 ?_
    refine tm_ior 42 rfl dX10_changed_41 ?_
    refine tm_ixor 43 rfl dX10_changed_42 ?_
    rw [swp_2 _ (by omega) (by omega)]
    refine tm_callS_I (c_X10_is hc (k := swp i j k) (by have := swp_lt hk hi hj; omega)) ms_X10_is ml_X10_97 rfl rfl (Nat.le_of_ble_eq_true rfl) 46 rfl dX10_changed_43 ?_
    refine tm_callS_I (c_X10_bit) ms_X10_bit ml_X10_90 rfl rfl (Nat.le_of_ble_eq_true rfl) 49 rfl dX10_changed_46 ?_
    refine tm_iload_5 51 rfl dX10_changed_49 ?_
    refine tm_ishl 52 rfl dX10_changed_51 ?_
    refine tm_ior 53 rfl dX10_changed_52 ?_
    rw [orb _ (by omega)]
    refine tm_istore_4 (by decide) rfl 55 rfl dX10_changed_53 ?_
    refine tm_iinc_5 (nI (k + 1)) (iinc1 k) (by decide) rfl 58 rfl dX10_changed_55 ?_
    refine tm_goto 6 rfl dX10_changed_58 ?_
    exact tm_wkr ih (And.intro rfl (And.intro rfl (And.intro rfl (And.intro rfl (And.intro rfl (And.intro rfl trivial))))))
  · refine tm_iload_5 8 rfl dX10_changed_6 ?_
    refine tm_aload_0 9 rfl dX10_changed_8 ?_
    refine tm_callV_I (ci := 9) (c_X10_lots hn h4) mv_X10_lots ml_X10_56 rfl rfl rfl rfl rfl (Nat.le_of_ble_eq_true rfl) 12 rfl dX10_changed_9 ?_
    refine tm_icmp_ge_t 61 (nI_le (Nat.le_refl _) (by omega)) rfl dX10_changed_12 ?_
    refine tm_iload_4 63 rfl dX10_changed_61 ?_
    exact tm_iret rfl rfl rfl dX10_changed_63

/-- the worth of lot k by the first so many weights -/
def wth (w : Nat → Int32) (k : Nat) : Nat → Int32
  | 0 => 0
  | v + 1 => wth w k v + bI (k.testBit v) * w v
set_option maxRecDepth 100000 in
set_option maxHeartbeats 4000000 in
theorem c_X10_worth {g : GC} {d : Nat} {M : MI} {L : ML} {n : Nat} (hn : M 55 0 = nI n) (h4 : n ≤ 4) {k : Nat} (hk : k < 2 ^ 31) : CfI g (d) yX10_worth cX10_worth 4 .int [rf g 54, .int (nI k)] M L (wth (fun v => M 55 (4 + v)) k n) (M) (L) := by
  refine cfI_of (own := RX10) (l := [some (rf g 54), some (.int (nI k)), none, none]) 2 rfl rfl rfl (Nat.le_of_ble_eq_true rfl) ?_
  refine tm_iconst (0) rfl 1 rfl dX10_worth_0 ?_
  refine tm_istore_2 (by decide) rfl 2 rfl dX10_worth_1 ?_
  refine tm_iconst (0) rfl 3 rfl dX10_worth_2 ?_
  refine tm_istore_3 (by decide) rfl 4 rfl dX10_worth_3 ?_
  refine tm_loop (N := n) (fun v => Tm g (d) RX10 cX10_worth 4 (some .int) (QI g (wth (fun v => M 55 (4 + v)) k n) (M) (L)) 4 [some (rf g 54), some (.int (nI k)), some (.int (wth (fun v => M 55 (4 + v)) k v)), some (.int (nI v))] [] (M) (L)) (fun v hv ih => ?_) ?_
  · refine tm_iload_3 5 rfl dX10_worth_4 ?_
    refine tm_aload_0 6 rfl dX10_worth_5 ?_
    refine tm_getr fl_X10_11 rfl rfl 9 rfl dX10_worth_6 ?_
    refine tm_iconst (0) rfl 10 rfl dX10_worth_9 ?_
    refine tm_ald rfl (ix := 0) ⟨by decide, by decide, by decide⟩ 11 rfl dX10_worth_10 ?_
    rw [hn]
    refine tm_icmp_ge_f 14 (nI_ge hv (by omega)) rfl rfl dX10_worth_11 ?_
    refine tm_iload_2 15 rfl dX10_worth_14 ?_
    refine tm_iload_1 16 rfl dX10_worth_15 ?_
    refine tm_iload_3 17 rfl dX10_worth_16 ?_
    refine tm_ishr 18 rfl dX10_worth_17 ?_
    refine tm_iconst (1) rfl 19 rfl dX10_worth_18 ?_
    refine tm_iand 20 rfl dX10_worth_19 ?_
    rw [bit_1 hk (by omega)]
    refine tm_aload_0 21 rfl dX10_worth_20 ?_
    refine tm_getr fl_X10_11 rfl rfl 24 rfl dX10_worth_21 ?_
    refine tm_iconst (4) rfl 25 rfl dX10_worth_24 ?_
    refine tm_iload_3 26 rfl dX10_worth_25 ?_
    refine tm_iadd 27 rfl dX10_worth_26 ?_
    rw [show (4 : Int32) = nI 4 from rfl, nI_add]
    refine tm_ald rfl (ix := 4 + v) (ix_nI (by omega) (by decide)) 28 rfl dX10_worth_27 ?_
    refine tm_imul 29 rfl dX10_worth_28 ?_
    refine tm_iadd 30 rfl dX10_worth_29 ?_
    refine tm_istore_2 (by decide) rfl 31 rfl dX10_worth_30 ?_
    refine tm_iinc_3 (nI (v + 1)) (iinc1 v) (by decide) rfl 34 rfl dX10_worth_31 ?_
    refine tm_goto 4 rfl dX10_worth_34 ?_
    exact ih
  · refine tm_iload_3 5 rfl dX10_worth_4 ?_
    refine tm_aload_0 6 rfl dX10_worth_5 ?_
    refine tm_getr fl_X10_11 rfl rfl 9 rfl dX10_worth_6 ?_
    refine tm_iconst (0) rfl 10 rfl dX10_worth_9 ?_
    refine tm_ald rfl (ix := 0) ⟨by decide, by decide, by decide⟩ 11 rfl dX10_worth_10 ?_
    rw [hn]
    refine tm_icmp_ge_t 37 (nI_le (Nat.le_refl _) (by omega)) rfl dX10_worth_11 ?_
    refine tm_iload_2 38 rfl dX10_worth_37 ?_
    exact tm_iret rfl rfl rfl dX10_worth_38

def wgN (n : Nat) (w : Nat → Int32) (q : Int32) : Nat := bits (2 ^ n) (fun k => decide (q ≤ wth w k n))
set_option maxRecDepth 100000 in
set_option maxHeartbeats 4000000 in
theorem c_X10_weighed {g : GC} {d : Nat} {M : MI} {L : ML} {n : Nat} (hn : M 55 0 = nI n) (h4 : n ≤ 4) : CfI g (d + 1) yX10_weighed cX10_weighed 3 .int [rf g 54] M L (nI (wgN n (fun v => M 55 (4 + v)) (M 55 3))) (M) (L) := by
  have h16 := pow4 h4
  have hp1 := Nat.two_pow_pos n
  refine cfI_of (own := RX10) (l := [some (rf g 54), none, none]) 2 rfl rfl rfl (Nat.le_of_ble_eq_true rfl) ?_
  refine tm_iconst (0) rfl 1 rfl dX10_weighed_0 ?_
  refine tm_istore_1 (by decide) rfl 2 rfl dX10_weighed_1 ?_
  refine tm_iconst (0) rfl 3 rfl dX10_weighed_2 ?_
  refine tm_istore_2 (by decide) rfl 4 rfl dX10_weighed_3 ?_
  refine tm_loop (N := 2 ^ n) (fun k => Tm g (d + 1) RX10 cX10_weighed 3 (some .int) (QI g (nI (wgN n (fun v => M 55 (4 + v)) (M 55 3))) (M) (L)) 4 [some (rf g 54), some (.int (nI (bits k (fun k => decide (M 55 3 ≤ wth (fun v => M 55 (4 + v)) k n))))), some (.int (nI k))] [] (M) (L)) (fun k hk ih => ?_) ?_
  · refine tm_iload_2 5 rfl dX10_weighed_4 ?_
    refine tm_aload_0 6 rfl dX10_weighed_5 ?_
    refine tm_callV_I (ci := 9) (c_X10_lots hn h4) mv_X10_lots ml_X10_56 rfl rfl rfl rfl rfl (Nat.le_of_ble_eq_true rfl) 9 rfl dX10_weighed_6 ?_
    refine tm_icmp_ge_f 12 (nI_ge hk (by omega)) rfl rfl dX10_weighed_9 ?_
    refine tm_iload_1 13 rfl dX10_weighed_12 ?_
    refine tm_aload_0 14 rfl dX10_weighed_13 ?_
    refine tm_iload_2 15 rfl dX10_weighed_14 ?_
    refine tm_callV_I (ci := 9) (c_X10_worth hn h4 (k := k) (by omega)) mv_X10_worth ml_X10_86 rfl rfl rfl rfl rfl (Nat.le_of_ble_eq_true rfl) 18 rfl dX10_weighed_15 ?_
    refine tm_aload_0 19 rfl dX10_weighed_18 ?_
    refine tm_getr fl_X10_11 rfl rfl 22 rfl dX10_weighed_19 ?_
    refine tm_iconst (3) rfl 23 rfl dX10_weighed_22 ?_
    refine tm_ald rfl (ix := 3) ⟨by decide, by decide, by decide⟩ 24 rfl dX10_weighed_23 ?_
    refine tm_join2 32 (bI (decide (M 55 3 ≤ wth (fun v => M 55 (4 + v)) k n))) ?_ (fun hJ32 => ?_)
    · refine tm_callS_I (c_X10_bit) ms_X10_bit ml_X10_90 rfl rfl (Nat.le_of_ble_eq_true rfl) 35 rfl dX10_weighed_32 ?_
      refine tm_iload_2 36 rfl dX10_weighed_35 ?_
      refine tm_ishl 37 rfl dX10_weighed_36 ?_
      refine tm_ior 38 rfl dX10_weighed_37 ?_
      rw [orb _ (by omega)]
      refine tm_istore_1 (by decide) rfl 39 rfl dX10_weighed_38 ?_
      refine tm_iinc_2 (nI (k + 1)) (iinc1 k) (by decide) rfl 42 rfl dX10_weighed_39 ?_
      refine tm_goto 4 rfl dX10_weighed_42 ?_
      exact ih
    · refine tm_icmp_lt 31 27 rfl rfl dX10_weighed_24 (fun h24 => ?_) (fun h24 => ?_)
      · refine tm_iconst (0) rfl 32 rfl dX10_weighed_31 ?_
        exact tm_top (by first | (rw [decide_eq_true (fa_of_nlt h24)]; rfl) | (rw [decide_eq_false (fa_of_lt h24).2.1]; rfl)) hJ32
      · refine tm_iconst (1) rfl 28 rfl dX10_weighed_27 ?_
        refine tm_goto 32 rfl dX10_weighed_28 ?_
        exact tm_top (by first | (rw [decide_eq_true (fa_of_nlt h24)]; rfl) | (rw [decide_eq_false (fa_of_lt h24).2.1]; rfl)) hJ32
  · refine tm_iload_2 5 rfl dX10_weighed_4 ?_
    refine tm_aload_0 6 rfl dX10_weighed_5 ?_
    refine tm_callV_I (ci := 9) (c_X10_lots hn h4) mv_X10_lots ml_X10_56 rfl rfl rfl rfl rfl (Nat.le_of_ble_eq_true rfl) 9 rfl dX10_weighed_6 ?_
    refine tm_icmp_ge_t 45 (nI_le (Nat.le_refl _) (by omega)) rfl dX10_weighed_9 ?_
    refine tm_iload_1 46 rfl dX10_weighed_45 ?_
    exact tm_iret rfl rfl rfl dX10_weighed_46

set_option maxRecDepth 100000 in
set_option maxHeartbeats 4000000 in
theorem c_X10_worthBy {g : GC} {d : Nat} {M : MI} {L : ML} {n : Nat} (hn : M 55 0 = nI n) (h4 : n ≤ 4) {j k : Nat} (hj : shp j = some (.inr (0, 4, []))) (hk : k < 2 ^ 31) : CfI g (d) yX10_worthBy cX10_worthBy 5 .int [rf g 54, rf g j, .int (nI k)] M L (wth (M j) k n) (M) (L) := by
  refine cfI_of (own := RX10) (l := [some (rf g 54), some (rf g j), some (.int (nI k)), none, none]) 2 rfl rfl rfl (Nat.le_of_ble_eq_true rfl) ?_
  refine tm_iconst (0) rfl 1 rfl dX10_worthBy_0 ?_
  refine tm_istore_3 (by decide) rfl 2 rfl dX10_worthBy_1 ?_
  refine tm_iconst (0) rfl 3 rfl dX10_worthBy_2 ?_
  refine tm_istore_4 (by decide) rfl 5 rfl dX10_worthBy_3 ?_
  refine tm_loop (N := n) (fun v => Tm g (d) RX10 cX10_worthBy 5 (some .int) (QI g (wth (M j) k n) (M) (L)) 5 [some (rf g 54), some (rf g j), some (.int (nI k)), some (.int (wth (M j) k v)), some (.int (nI v))] [] (M) (L)) (fun v hv ih => ?_) ?_
  · refine tm_iload_4 7 rfl dX10_worthBy_5 ?_
    refine tm_aload_0 8 rfl dX10_worthBy_7 ?_
    refine tm_getr fl_X10_11 rfl rfl 11 rfl dX10_worthBy_8 ?_
    refine tm_iconst (0) rfl 12 rfl dX10_worthBy_11 ?_
    refine tm_ald rfl (ix := 0) ⟨by decide, by decide, by decide⟩ 13 rfl dX10_worthBy_12 ?_
    rw [hn]
    refine tm_icmp_ge_f 16 (nI_ge hv (by omega)) rfl rfl dX10_worthBy_13 ?_
    refine tm_iload_3 17 rfl dX10_worthBy_16 ?_
    refine tm_iload_2 18 rfl dX10_worthBy_17 ?_
    refine tm_iload_4 20 rfl dX10_worthBy_18 ?_
    refine tm_ishr 21 rfl dX10_worthBy_20 ?_
    refine tm_iconst (1) rfl 22 rfl dX10_worthBy_21 ?_
    refine tm_iand 23 rfl dX10_worthBy_22 ?_
    rw [bit_1 hk (by omega)]
    refine tm_aload_1 24 rfl dX10_worthBy_23 ?_
    refine tm_iload_4 26 rfl dX10_worthBy_24 ?_
    refine tm_ald hj (ix := v) (ix_nI (by omega) (by decide)) 27 rfl dX10_worthBy_26 ?_
    refine tm_imul 28 rfl dX10_worthBy_27 ?_
    refine tm_iadd 29 rfl dX10_worthBy_28 ?_
    refine tm_istore_3 (by decide) rfl 30 rfl dX10_worthBy_29 ?_
    refine tm_iinc_4 (nI (v + 1)) (iinc1 v) (by decide) rfl 33 rfl dX10_worthBy_30 ?_
    refine tm_goto 5 rfl dX10_worthBy_33 ?_
    exact ih
  · refine tm_iload_4 7 rfl dX10_worthBy_5 ?_
    refine tm_aload_0 8 rfl dX10_worthBy_7 ?_
    refine tm_getr fl_X10_11 rfl rfl 11 rfl dX10_worthBy_8 ?_
    refine tm_iconst (0) rfl 12 rfl dX10_worthBy_11 ?_
    refine tm_ald rfl (ix := 0) ⟨by decide, by decide, by decide⟩ 13 rfl dX10_worthBy_12 ?_
    rw [hn]
    refine tm_icmp_ge_t 36 (nI_le (Nat.le_refl _) (by omega)) rfl dX10_worthBy_13 ?_
    refine tm_iload_3 37 rfl dX10_worthBy_36 ?_
    exact tm_iret rfl rfl rfl dX10_worthBy_37

/-- the least worth of a lot below k that is yes (from a), the greatest of one that is no (from b) -/
def lsF (p : Nat → Bool) (wt : Nat → Int32) (a : Int32) : Nat → Int32
  | 0 => a
  | k + 1 => if p k = true ∧ wt k < lsF p wt a k then wt k else lsF p wt a k
def gtF (p : Nat → Bool) (wt : Nat → Int32) (a : Int32) : Nat → Int32
  | 0 => a
  | k + 1 => if p k = true ∧ gtF p wt a k < wt k then wt k else gtF p wt a k
set_option maxRecDepth 100000 in
set_option maxHeartbeats 4000000 in
theorem c_X10_tells {g : GC} {d : Nat} {M : MI} {L : ML} {n : Nat} (hn : M 55 0 = nI n) (h4 : n ≤ 4) {c : Nat} (hc : c < 2 ^ 31) : CfI g (d + 1) yX10_tells cX10_tells 6 .boolean [rf g 54, .int (nI c)] M L (bI (decide (gtF (fun k => !c.testBit k) (fun k => wth (M 57) k n) (-99) (2 ^ n) < lsF c.testBit (fun k => wth (M 57) k n) 99 (2 ^ n)))) (M) (L) := by
  have h16 := pow4 h4
  have hp1 := Nat.two_pow_pos n
  refine cfI_of (own := RX10) (l := [some (rf g 54), some (.int (nI c)), none, none, none, none]) 4 rfl rfl rfl (Nat.le_of_ble_eq_true rfl) ?_
  refine tm_bipush (99) (by decide) 2 rfl dX10_tells_0 ?_
  refine tm_istore_2 (by decide) rfl 3 rfl dX10_tells_2 ?_
  refine tm_bipush (-99) (by decide) 5 rfl dX10_tells_3 ?_
  refine tm_istore_3 (by decide) rfl 6 rfl dX10_tells_5 ?_
  refine tm_iconst (0) rfl 7 rfl dX10_tells_6 ?_
  refine tm_istore_4 (by decide) rfl 9 rfl dX10_tells_7 ?_
  refine tm_loop (N := 2 ^ n) (fun k => Tm g (d + 1) RX10 cX10_tells 6 (some .boolean) (QI g (bI (decide (gtF (fun k => !c.testBit k) (fun k => wth (M 57) k n) (-99) (2 ^ n) < lsF c.testBit (fun k => wth (M 57) k n) 99 (2 ^ n)))) (M) (L)) 9 [some (rf g 54), some (.int (nI c)), some (.int (lsF c.testBit (fun k => wth (M 57) k n) 99 k)), some (.int (gtF (fun k => !c.testBit k) (fun k => wth (M 57) k n) (-99) k)), some (.int (nI k)), none] [] (M) (L)) (fun k hk ih => ?_) ?_
  · refine tm_iload_4 11 rfl dX10_tells_9 ?_
    refine tm_aload_0 12 rfl dX10_tells_11 ?_
    refine tm_callV_I (ci := 9) (c_X10_lots hn h4) mv_X10_lots ml_X10_56 rfl rfl rfl rfl rfl (Nat.le_of_ble_eq_true rfl) 15 rfl dX10_tells_12 ?_
    refine tm_icmp_ge_f 18 (nI_ge hk (by omega)) rfl rfl dX10_tells_15 ?_
    refine tm_aload_0 19 rfl dX10_tells_18 ?_
    refine tm_aload_0 20 rfl dX10_tells_19 ?_
    refine tm_getr fl_X10_18 rfl rfl 23 rfl dX10_tells_20 ?_
    refine tm_iload_4 25 rfl dX10_tells_23 ?_
    refine tm_callV_I (ci := 9) (c_X10_worthBy hn h4 (j := 57) (k := k) rfl (by omega)) mv_X10_worthBy ml_X10_118 rfl rfl rfl rfl rfl (Nat.le_of_ble_eq_true rfl) 28 rfl dX10_tells_25 ?_
    refine tm_istore_5 (by decide) rfl 30 rfl dX10_tells_28 ?_
    refine tm_iload_1 31 rfl dX10_tells_30 ?_
    refine tm_iload_4 33 rfl dX10_tells_31 ?_
    refine tm_callS_I (c_X10_is hc (k := k) (by omega)) ms_X10_is ml_X10_97 rfl rfl (Nat.le_of_ble_eq_true rfl) 36 rfl dX10_tells_33 ?_
    refine tm_join1 51 (lsF c.testBit (fun k => wth (M 57) k n) 99 (k + 1)) ?_ (fun hJ51 => ?_)
    · refine tm_istore_2 (by decide) rfl 52 rfl dX10_tells_51 ?_
      refine tm_iload_1 53 rfl dX10_tells_52 ?_
      refine tm_iload_4 55 rfl dX10_tells_53 ?_
      refine tm_callS_I (c_X10_is hc (k := k) (by omega)) ms_X10_is ml_X10_97 rfl rfl (Nat.le_of_ble_eq_true rfl) 58 rfl dX10_tells_55 ?_
      refine tm_join1 73 (gtF (fun k => !c.testBit k) (fun k => wth (M 57) k n) (-99) (k + 1)) ?_ (fun hJ73 => ?_)
      · refine tm_istore_3 (by decide) rfl 74 rfl dX10_tells_73 ?_
        refine tm_iinc_4 (nI (k + 1)) (iinc1 k) (by decide) rfl 77 rfl dX10_tells_74 ?_
        refine tm_goto 9 rfl dX10_tells_77 ?_
        exact tm_wkr ih (And.intro rfl (And.intro rfl (And.intro rfl (And.intro rfl (And.intro rfl trivial)))))
      · refine tm_if_neB 72 61 rfl rfl dX10_tells_58 (fun h58 => ?_) (fun h58 => ?_)
        · refine tm_iload_3 73 rfl dX10_tells_72 ?_
          exact tm_top (by first | exact if_pos ⟨by simp [h58], nle_lt h64⟩ | exact if_neg (fun q => (fa_of_lt q.2).2.1 h64) | exact if_neg (fun q => by have := q.1; simp [h58] at this)) hJ73
        · refine tm_iload_5 63 rfl dX10_tells_61 ?_
          refine tm_iload_3 64 rfl dX10_tells_63 ?_
          refine tm_icmp_le 72 67 rfl rfl dX10_tells_64 (fun h64 => ?_) (fun h64 => ?_)
          · refine tm_iload_3 73 rfl dX10_tells_72 ?_
            exact tm_top (by first | exact if_pos ⟨by simp [h58], nle_lt h64⟩ | exact if_neg (fun q => (fa_of_lt q.2).2.1 h64) | exact if_neg (fun q => by have := q.1; simp [h58] at this)) hJ73
          · refine tm_iload_5 69 rfl dX10_tells_67 ?_
            refine tm_goto 73 rfl dX10_tells_69 ?_
            exact tm_top (by first | exact if_pos ⟨by simp [h58], nle_lt h64⟩ | exact if_neg (fun q => (fa_of_lt q.2).2.1 h64) | exact if_neg (fun q => by have := q.1; simp [h58] at this)) hJ73
    · refine tm_if_eqB 50 39 rfl rfl dX10_tells_36 (fun h36 => ?_) (fun h36 => ?_)
      · refine tm_iload_2 51 rfl dX10_tells_50 ?_
        exact tm_top (by first | exact if_pos ⟨h36, nle_lt h42⟩ | exact if_neg (fun q => (fa_of_lt q.2).2.1 h42) | exact if_neg (fun q => by rw [h36] at q; exact absurd q.1 (by decide))) hJ51
      · refine tm_iload_5 41 rfl dX10_tells_39 ?_
        refine tm_iload_2 42 rfl dX10_tells_41 ?_
        refine tm_icmp_ge 50 45 rfl rfl dX10_tells_42 (fun h42 => ?_) (fun h42 => ?_)
        · refine tm_iload_2 51 rfl dX10_tells_50 ?_
          exact tm_top (by first | exact if_pos ⟨h36, nle_lt h42⟩ | exact if_neg (fun q => (fa_of_lt q.2).2.1 h42) | exact if_neg (fun q => by rw [h36] at q; exact absurd q.1 (by decide))) hJ51
        · refine tm_iload_5 47 rfl dX10_tells_45 ?_
          refine tm_goto 51 rfl dX10_tells_47 ?_
          exact tm_top (by first | exact if_pos ⟨h36, nle_lt h42⟩ | exact if_neg (fun q => (fa_of_lt q.2).2.1 h42) | exact if_neg (fun q => by rw [h36] at q; exact absurd q.1 (by decide))) hJ51
  · refine tm_iload_4 11 rfl dX10_tells_9 ?_
    refine tm_aload_0 12 rfl dX10_tells_11 ?_
    refine tm_callV_I (ci := 9) (c_X10_lots hn h4) mv_X10_lots ml_X10_56 rfl rfl rfl rfl rfl (Nat.le_of_ble_eq_true rfl) 15 rfl dX10_tells_12 ?_
    refine tm_icmp_ge_t 80 (nI_le (Nat.le_refl _) (by omega)) rfl dX10_tells_15 ?_
    refine tm_iload_2 81 rfl dX10_tells_80 ?_
    refine tm_iload_3 82 rfl dX10_tells_81 ?_
    refine tm_icmp_le 89 85 rfl rfl dX10_tells_82 (fun h82 => ?_) (fun h82 => ?_)
    · refine tm_iconst (0) rfl 90 rfl dX10_tells_89 ?_
      exact tm_zret (by decide) (by first | (rw [decide_eq_false (fun q => (fa_of_lt q).2.1 h82)]; rfl) | (rw [decide_eq_true (fa_of_nle h82)]; rfl)) rfl rfl dX10_tells_90
    · refine tm_iconst (1) rfl 86 rfl dX10_tells_85 ?_
      refine tm_goto 90 rfl dX10_tells_86 ?_
      exact tm_zret (by decide) (by first | (rw [decide_eq_false (fun q => (fa_of_lt q).2.1 h82)]; rfl) | (rw [decide_eq_true (fa_of_nle h82)]; rfl)) rfl rfl dX10_tells_90

set_option maxRecDepth 100000 in
set_option maxHeartbeats 4000000 in
theorem c_X10_leastQuota {g : GC} {d : Nat} {M : MI} {L : ML} {n : Nat} (hn : M 55 0 = nI n) (h4 : n ≤ 4) {c : Nat} (hc : c < 2 ^ 31) : CfI g (d + 1) yX10_leastQuota cX10_leastQuota 6 .int [rf g 54, .int (nI c)] M L (if c = 0 then gtF (fun _ => true) (fun k => wth (M 58) k n) (-99) (2 ^ n) + 1 else lsF c.testBit (fun k => wth (M 58) k n) 99 (2 ^ n)) (M) (L) := by
  have h16 := pow4 h4
  have hp1 := Nat.two_pow_pos n
  refine cfI_of (own := RX10) (l := [some (rf g 54), some (.int (nI c)), none, none, none, none]) 4 rfl rfl rfl (Nat.le_of_ble_eq_true rfl) ?_
  refine tm_bipush (99) (by decide) 2 rfl dX10_leastQuota_0 ?_
  refine tm_istore_2 (by decide) rfl 3 rfl dX10_leastQuota_2 ?_
  refine tm_bipush (-99) (by decide) 5 rfl dX10_leastQuota_3 ?_
  refine tm_istore_3 (by decide) rfl 6 rfl dX10_leastQuota_5 ?_
  refine tm_iconst (0) rfl 7 rfl dX10_leastQuota_6 ?_
  refine tm_istore_4 (by decide) rfl 9 rfl dX10_leastQuota_7 ?_
  refine tm_loop (N := 2 ^ n) (fun k => Tm g (d + 1) RX10 cX10_leastQuota 6 (some .int) (QI g (if c = 0 then gtF (fun _ => true) (fun k => wth (M 58) k n) (-99) (2 ^ n) + 1 else lsF c.testBit (fun k => wth (M 58) k n) 99 (2 ^ n)) (M) (L)) 9 [some (rf g 54), some (.int (nI c)), some (.int (lsF c.testBit (fun k => wth (M 58) k n) 99 k)), some (.int (gtF (fun _ => true) (fun k => wth (M 58) k n) (-99) k)), some (.int (nI k)), none] [] (M) (L)) (fun k hk ih => ?_) ?_
  · refine tm_iload_4 11 rfl dX10_leastQuota_9 ?_
    refine tm_aload_0 12 rfl dX10_leastQuota_11 ?_
    refine tm_callV_I (ci := 9) (c_X10_lots hn h4) mv_X10_lots ml_X10_56 rfl rfl rfl rfl rfl (Nat.le_of_ble_eq_true rfl) 15 rfl dX10_leastQuota_12 ?_
    refine tm_icmp_ge_f 18 (nI_ge hk (by omega)) rfl rfl dX10_leastQuota_15 ?_
    refine tm_aload_0 19 rfl dX10_leastQuota_18 ?_
    refine tm_aload_0 20 rfl dX10_leastQuota_19 ?_
    refine tm_getr fl_X10_21 rfl rfl 23 rfl dX10_leastQuota_20 ?_
    refine tm_iload_4 25 rfl dX10_leastQuota_23 ?_
    refine tm_callV_I (ci := 9) (c_X10_worthBy hn h4 (j := 58) (k := k) rfl (by omega)) mv_X10_worthBy ml_X10_118 rfl rfl rfl rfl rfl (Nat.le_of_ble_eq_true rfl) 28 rfl dX10_leastQuota_25 ?_
    refine tm_istore_5 (by decide) rfl 30 rfl dX10_leastQuota_28 ?_
    refine tm_iload_1 31 rfl dX10_leastQuota_30 ?_
    refine tm_iload_4 33 rfl dX10_leastQuota_31 ?_
    refine tm_callS_I (c_X10_is hc (k := k) (by omega)) ms_X10_is ml_X10_97 rfl rfl (Nat.le_of_ble_eq_true rfl) 36 rfl dX10_leastQuota_33 ?_
    refine tm_join1 51 (lsF c.testBit (fun k => wth (M 58) k n) 99 (k + 1)) ?_ (fun hJ51 => ?_)
    · refine tm_istore_2 (by decide) rfl 52 rfl dX10_leastQuota_51 ?_
      refine tm_iload_5 54 rfl dX10_leastQuota_52 ?_
      refine tm_iload_3 55 rfl dX10_leastQuota_54 ?_
      refine tm_join2 64 (gtF (fun _ => true) (fun k => wth (M 58) k n) (-99) (k + 1)) ?_ (fun hJ64 => ?_)
      · refine tm_istore_3 (by decide) rfl 65 rfl dX10_leastQuota_64 ?_
        refine tm_iinc_4 (nI (k + 1)) (iinc1 k) (by decide) rfl 68 rfl dX10_leastQuota_65 ?_
        refine tm_goto 9 rfl dX10_leastQuota_68 ?_
        exact tm_wkr ih (And.intro rfl (And.intro rfl (And.intro rfl (And.intro rfl (And.intro rfl trivial)))))
      · refine tm_icmp_le 63 58 rfl rfl dX10_leastQuota_55 (fun h55 => ?_) (fun h55 => ?_)
        · refine tm_iload_3 64 rfl dX10_leastQuota_63 ?_
          exact tm_top (by first | exact if_pos ⟨rfl, nle_lt h55⟩ | exact if_neg (fun q => (fa_of_lt q.2).2.1 h55)) hJ64
        · refine tm_iload_5 60 rfl dX10_leastQuota_58 ?_
          refine tm_goto 64 rfl dX10_leastQuota_60 ?_
          exact tm_top (by first | exact if_pos ⟨rfl, nle_lt h55⟩ | exact if_neg (fun q => (fa_of_lt q.2).2.1 h55)) hJ64
    · refine tm_if_eqB 50 39 rfl rfl dX10_leastQuota_36 (fun h36 => ?_) (fun h36 => ?_)
      · refine tm_iload_2 51 rfl dX10_leastQuota_50 ?_
        exact tm_top (by first | exact if_pos ⟨h36, nle_lt h42⟩ | exact if_neg (fun q => (fa_of_lt q.2).2.1 h42) | exact if_neg (fun q => by rw [h36] at q; exact absurd q.1 (by decide))) hJ51
      · refine tm_iload_5 41 rfl dX10_leastQuota_39 ?_
        refine tm_iload_2 42 rfl dX10_leastQuota_41 ?_
        refine tm_icmp_ge 50 45 rfl rfl dX10_leastQuota_42 (fun h42 => ?_) (fun h42 => ?_)
        · refine tm_iload_2 51 rfl dX10_leastQuota_50 ?_
          exact tm_top (by first | exact if_pos ⟨h36, nle_lt h42⟩ | exact if_neg (fun q => (fa_of_lt q.2).2.1 h42) | exact if_neg (fun q => by rw [h36] at q; exact absurd q.1 (by decide))) hJ51
        · refine tm_iload_5 47 rfl dX10_leastQuota_45 ?_
          refine tm_goto 51 rfl dX10_leastQuota_47 ?_
          exact tm_top (by first | exact if_pos ⟨h36, nle_lt h42⟩ | exact if_neg (fun q => (fa_of_lt q.2).2.1 h42) | exact if_neg (fun q => by rw [h36] at q; exact absurd q.1 (by decide))) hJ51
  · refine tm_iload_4 11 rfl dX10_leastQuota_9 ?_
    refine tm_aload_0 12 rfl dX10_leastQuota_11 ?_
    refine tm_callV_I (ci := 9) (c_X10_lots hn h4) mv_X10_lots ml_X10_56 rfl rfl rfl rfl rfl (Nat.le_of_ble_eq_true rfl) 15 rfl dX10_leastQuota_12 ?_
    refine tm_icmp_ge_t 71 (nI_le (Nat.le_refl _) (by omega)) rfl dX10_leastQuota_15 ?_
    refine tm_iload_1 72 rfl dX10_leastQuota_71 ?_
    refine tm_if_ne 81 75 rfl rfl dX10_leastQuota_72 (fun h72 => ?_) (fun h72 => ?_)
    · refine tm_iload_2 82 rfl dX10_leastQuota_81 ?_
      exact tm_iret (by first | exact (if_pos (by rw [← nI_0] at h72; exact (nI_eq hc (by decide)).mp h72)).symm | exact (if_neg (fun q => h72 (by rw [q]; rfl))).symm) rfl rfl dX10_leastQuota_82
    · refine tm_iload_3 76 rfl dX10_leastQuota_75 ?_
      refine tm_iconst (1) rfl 77 rfl dX10_leastQuota_76 ?_
      refine tm_iadd 78 rfl dX10_leastQuota_77 ?_
      refine tm_goto 82 rfl dX10_leastQuota_78 ?_
      exact tm_iret (by first | exact (if_pos (by rw [← nI_0] at h72; exact (nI_eq hc (by decide)).mp h72)).symm | exact (if_neg (fun q => h72 (by rw [q]; rfl))).symm) rfl rfl dX10_leastQuota_82


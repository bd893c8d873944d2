theorem in_1 {v a b : Int64} (h : lg_cmp v a < 0) : (0 : Int32) = bI (btw v a b) := by
  have h1 := (lgc_lt v a).mp h
  rw [fa_lt64] at h1
  have : btw v a b = false := decide_eq_false (fun q => by have := (fa_le64 a v).mp q.1; omega)
  rw [this]; rfl
theorem in_2 {v a b : Int64} (h : 0 < lg_cmp v b) : (0 : Int32) = bI (btw v a b) := by
  have h1 := (lgc_gt v b).mp h
  rw [fa_lt64] at h1
  have : btw v a b = false := decide_eq_false (fun q => by have := (fa_le64 v b).mp q.2; omega)
  rw [this]; rfl
theorem in_3 {v a b : Int64} (h : ¬ lg_cmp v a < 0) (h2 : ¬ 0 < lg_cmp v b) : (1 : Int32) = bI (btw v a b) := by
  have h1 : ¬ v < a := fun q => h ((lgc_lt v a).mpr q)
  have h3 : ¬ b < v := fun q => h2 ((lgc_gt v b).mpr q)
  rw [fa_lt64] at h1 h3
  have : btw v a b = true := decide_eq_true ⟨(fa_le64 a v).mpr (by omega), (fa_le64 v b).mpr (by omega)⟩
  rw [this]; rfl
set_option maxRecDepth 100000 in
set_option maxHeartbeats 4000000 in
theorem c_X10_in {g : GC} {d : Nat} {M : MI} {L : ML} {v a b : Int64} : CfI g (d) yX10_in cX10_in 6 .boolean [.long v, .long a, .long b] M L (bI (btw v a b)) (M) (L) := by
  refine cfI_of (own := RX10) (l := [some (.long v), none, some (.long a), none, some (.long b), none]) 0 rfl rfl rfl (Nat.le_of_ble_eq_true rfl) ?_
  refine tm_lload_0 1 rfl dX10_in_0 ?_
  refine tm_lload_2 2 rfl dX10_in_1 ?_
  refine tm_lcmp 3 rfl dX10_in_2 ?_
  refine tm_if_lt 17 6 rfl rfl dX10_in_3 (fun h3 => ?_) (fun h3 => ?_)
  · refine tm_iconst (0) rfl 18 rfl dX10_in_17 ?_
    exact tm_zret (by decide) (by first | exact in_1 h3 | exact in_2 h10 | exact in_3 h3 h10) rfl rfl dX10_in_18
  · refine tm_lload_0 7 rfl dX10_in_6 ?_
    refine tm_lload_4 9 rfl dX10_in_7 ?_
    refine tm_lcmp 10 rfl dX10_in_9 ?_
    refine tm_if_gt 17 13 rfl rfl dX10_in_10 (fun h10 => ?_) (fun h10 => ?_)
    · refine tm_iconst (0) rfl 18 rfl dX10_in_17 ?_
      exact tm_zret (by decide) (by first | exact in_1 h3 | exact in_2 h10 | exact in_3 h3 h10) rfl rfl dX10_in_18
    · refine tm_iconst (1) rfl 14 rfl dX10_in_13 ?_
      refine tm_goto 18 rfl dX10_in_14 ?_
      exact tm_zret (by decide) (by first | exact in_1 h3 | exact in_2 h10 | exact in_3 h3 h10) rfl rfl dX10_in_18

set_option maxRecDepth 100000 in
set_option maxHeartbeats 4000000 in
theorem c_X10_lots {g : GC} {d : Nat} {M : MI} {L : ML} {n : Nat} (hn : M 55 0 = nI n) (h4 : n ≤ 4) : CfI g (d) yX10_lots cX10_lots 1 .int [rf g 54] M L (nI (2 ^ n)) (M) (L) := by
  refine cfI_of (own := RX10) (l := [some (rf g 54)]) 0 rfl rfl rfl (Nat.le_of_ble_eq_true rfl) ?_
  refine tm_iconst (1) rfl 1 rfl dX10_lots_0 ?_
  refine tm_aload_0 2 rfl dX10_lots_1 ?_
  refine tm_getr fl_X10_11 rfl rfl 5 rfl dX10_lots_2 ?_
  refine tm_iconst (0) rfl 6 rfl dX10_lots_5 ?_
  refine tm_ald rfl (ix := 0) ⟨by decide, by decide, by decide⟩ 7 rfl dX10_lots_6 ?_
  rw [hn]
  refine tm_ishl 8 rfl dX10_lots_7 ?_
  exact tm_iret (sh_1 n (by omega)) rfl rfl dX10_lots_8

theorem nI_m1 {n : Nat} (h : 1 ≤ n) : nI n - 1 = nI (n - 1) := pk_sub h
set_option maxRecDepth 100000 in
set_option maxHeartbeats 4000000 in
theorem c_X10_most {g : GC} {d : Nat} {M : MI} {L : ML} {n : Nat} (hn : M 55 0 = nI n) (h4 : n ≤ 4) : CfI g (d + 1) yX10_most cX10_most 1 .int [rf g 54] M L (nI (2 ^ 2 ^ n - 1)) (M) (L) := by
  have h16 := pow4 h4
  refine cfI_of (own := RX10) (l := [some (rf g 54)]) 0 rfl rfl rfl (Nat.le_of_ble_eq_true rfl) ?_
  refine tm_iconst (1) rfl 1 rfl dX10_most_0 ?_
  refine tm_aload_0 2 rfl dX10_most_1 ?_
  refine tm_callV_I (ci := 9) (c_X10_lots hn h4) mv_X10_lots ml_X10_56 rfl rfl rfl rfl rfl (Nat.le_of_ble_eq_true rfl) 5 rfl dX10_most_2 ?_
  refine tm_ishl 6 rfl dX10_most_5 ?_
  rw [sh_1 _ (by omega)]
  refine tm_iconst (1) rfl 7 rfl dX10_most_6 ?_
  refine tm_isub 8 rfl dX10_most_7 ?_
  exact tm_iret (nI_m1 (Nat.two_pow_pos _)) rfl rfl dX10_most_8

theorem isL_1 {x : Int32} {N : Nat} (h : 1 ≤ N) (h2 : N < 2 ^ 31) : bI (btw x.toInt64 0 (nI N - 1).toInt64) = bI (inN x N) := by
  rw [nI_m1 h, btw_in (N := N)]
  rw [Int32.toInt_toInt64, nI_toInt (by omega)]
  omega
set_option maxRecDepth 100000 in
set_option maxHeartbeats 4000000 in
theorem c_X10_isLot {g : GC} {d : Nat} {M : MI} {L : ML} {n : Nat} (hn : M 55 0 = nI n) (h4 : n ≤ 4) {x : Int32} : CfI g (d + 1) yX10_isLot cX10_isLot 2 .boolean [rf g 54, .int x] M L (bI (inN x (2 ^ n))) (M) (L) := by
  have h16 := pow4 h4
  have hp := Nat.two_pow_pos n
  refine cfI_of (own := RX10) (l := [some (rf g 54), some (.int x)]) 0 rfl rfl rfl (Nat.le_of_ble_eq_true rfl) ?_
  refine tm_iload_1 1 rfl dX10_isLot_0 ?_
  refine tm_i2l 2 rfl dX10_isLot_1 ?_
  refine tm_lconst 0 rfl 3 rfl dX10_isLot_2 ?_
  refine tm_aload_0 4 rfl dX10_isLot_3 ?_
  refine tm_callV_I (ci := 9) (c_X10_lots hn h4) mv_X10_lots ml_X10_56 rfl rfl rfl rfl rfl (Nat.le_of_ble_eq_true rfl) 7 rfl dX10_isLot_4 ?_
  refine tm_iconst (1) rfl 8 rfl dX10_isLot_7 ?_
  refine tm_isub 9 rfl dX10_isLot_8 ?_
  refine tm_i2l 10 rfl dX10_isLot_9 ?_
  refine tm_callS_I (c_X10_in) ms_X10_in ml_X10_60 rfl rfl (Nat.le_of_ble_eq_true rfl) 13 rfl dX10_isLot_10 ?_
  exact tm_zret (bI_01 _) (isL_1 (by omega) (by omega)) rfl rfl dX10_isLot_13

set_option maxRecDepth 100000 in
set_option maxHeartbeats 4000000 in
theorem c_X10_isVoter {g : GC} {d : Nat} {M : MI} {L : ML} {n : Nat} (hn : M 55 0 = nI n) (h4 : n ≤ 4) (h1 : 1 ≤ n) {x : Int32} : CfI g (d + 1) yX10_isVoter cX10_isVoter 2 .boolean [rf g 54, .int x] M L (bI (inN x n)) (M) (L) := by
  refine cfI_of (own := RX10) (l := [some (rf g 54), some (.int x)]) 0 rfl rfl rfl (Nat.le_of_ble_eq_true rfl) ?_
  refine tm_iload_1 1 rfl dX10_isVoter_0 ?_
  refine tm_i2l 2 rfl dX10_isVoter_1 ?_
  refine tm_lconst 0 rfl 3 rfl dX10_isVoter_2 ?_
  refine tm_aload_0 4 rfl dX10_isVoter_3 ?_
  refine tm_getr fl_X10_11 rfl rfl 7 rfl dX10_isVoter_4 ?_
  refine tm_iconst (0) rfl 8 rfl dX10_isVoter_7 ?_
  refine tm_ald rfl (ix := 0) ⟨by decide, by decide, by decide⟩ 9 rfl dX10_isVoter_8 ?_
  rw [hn]
  refine tm_iconst (1) rfl 10 rfl dX10_isVoter_9 ?_
  refine tm_isub 11 rfl dX10_isVoter_10 ?_
  refine tm_i2l 12 rfl dX10_isVoter_11 ?_
  refine tm_callS_I (c_X10_in) ms_X10_in ml_X10_60 rfl rfl (Nat.le_of_ble_eq_true rfl) 15 rfl dX10_isVoter_12 ?_
  exact tm_zret (bI_01 _) (isL_1 (by omega) (by omega)) rfl rfl dX10_isVoter_15

set_option maxRecDepth 100000 in
set_option maxHeartbeats 4000000 in
theorem c_X10_is {g : GC} {d : Nat} {M : MI} {L : ML} {c k : Nat} (hc : c < 2 ^ 31) (hk : k < 32) : CfI g (d) yX10_is cX10_is 2 .boolean [.int (nI c), .int (nI k)] M L (bI (c.testBit k)) (M) (L) := by
  refine cfI_of (own := RX10) (l := [some (.int (nI c)), some (.int (nI k))]) 0 rfl rfl rfl (Nat.le_of_ble_eq_true rfl) ?_
  refine tm_iload_0 1 rfl dX10_is_0 ?_
  refine tm_iload_1 2 rfl dX10_is_1 ?_
  refine tm_ishr 3 rfl dX10_is_2 ?_
  refine tm_iconst (1) rfl 4 rfl dX10_is_3 ?_
  refine tm_iand 5 rfl dX10_is_4 ?_
  rw [bit_1 hc hk]
  refine tm_iconst (1) rfl 6 rfl dX10_is_5 ?_
  refine tm_icmp_ne 13 9 rfl rfl dX10_is_6 (fun h6 => ?_) (fun h6 => ?_)
  · refine tm_iconst (0) rfl 14 rfl dX10_is_13 ?_
    exact tm_zret (by decide) (by first | (rw [(bI_n1 _).mp h6]; rfl) | (rw [(bI_1 _).mp h6]; rfl)) rfl rfl dX10_is_14
  · refine tm_iconst (1) rfl 10 rfl dX10_is_9 ?_
    refine tm_goto 14 rfl dX10_is_10 ?_
    exact tm_zret (by decide) (by first | (rw [(bI_n1 _).mp h6]; rfl) | (rw [(bI_1 _).mp h6]; rfl)) rfl rfl dX10_is_14

set_option maxRecDepth 100000 in
set_option maxHeartbeats 4000000 in
theorem c_X10_bit {g : GC} {d : Nat} {M : MI} {L : ML} {b : Bool} : CfI g (d) yX10_bit cX10_bit 1 .int [.int (bI b)] M L (bI b) (M) (L) := by
  refine cfI_of (own := RX10) (l := [some (.int (bI b))]) 0 rfl rfl rfl (Nat.le_of_ble_eq_true rfl) ?_
  refine tm_iload_0 1 rfl dX10_bit_0 ?_
  refine tm_if_eq 8 4 rfl rfl dX10_bit_1 (fun h1 => ?_) (fun h1 => ?_)
  · refine tm_iconst (0) rfl 9 rfl dX10_bit_8 ?_
    exact tm_iret (by first | exact h1.symm | (rw [(bI_n0 b).mp h1]; rfl)) rfl rfl dX10_bit_9
  · refine tm_iconst (1) rfl 5 rfl dX10_bit_4 ?_
    refine tm_goto 9 rfl dX10_bit_5 ?_
    exact tm_iret (by first | exact h1.symm | (rw [(bI_n0 b).mp h1]; rfl)) rfl rfl dX10_bit_9

theorem xor16 {a b : Nat} (ha : a < 16) (hb : b < 16) : a ^^^ b < 16 := Nat.xor_lt_two_pow (n := 4) ha hb
theorem p2v {v n : Nat} (hv : v < n) (h4 : n ≤ 4) : 2 ^ v < 16 := by
  have : 2 ^ v ≤ 2 ^ 3 := Nat.pow_le_pow_right (by omega) (by omega)
  omega
def tnd (n c v : Nat) : Nat := bits (2 ^ n) (fun k => c.testBit (k ^^^ 2 ^ v))
set_option maxRecDepth 100000 in
set_option maxHeartbeats 4000000 in
theorem c_X10_turned {g : GC} {d : Nat} {M : MI} {L : ML} {n : Nat} (hn : M 55 0 = nI n) (h4 : n ≤ 4) {c v : Nat} (hc : c < 2 ^ 31) (hv : v < n) : CfI g (d + 1) yX10_turned cX10_turned 5 .int [rf g 54, .int (nI c), .int (nI v)] M L (nI (tnd n c v)) (M) (L) := by
  have h16 := pow4 h4
  have hv2 := p2v hv h4
  refine cfI_of (own := RX10) (l := [some (rf g 54), some (.int (nI c)), some (.int (nI v)), none, none]) 2 rfl rfl rfl (Nat.le_of_ble_eq_true rfl) ?_
  refine tm_iconst (0) rfl 1 rfl dX10_turned_0 ?_
  refine tm_istore_3 (by decide) rfl 2 rfl dX10_turned_1 ?_
  refine tm_iconst (0) rfl 3 rfl dX10_turned_2 ?_
  refine tm_istore_4 (by decide) rfl 5 rfl dX10_turned_3 ?_
  refine tm_loop (N := 2 ^ n) (fun k => Tm g (d + 1) RX10 cX10_turned 5 (some .int) (QI g (nI (tnd n c v)) (M) (L)) 5 [some (rf g 54), some (.int (nI c)), some (.int (nI v)), some (.int (nI (bits k (fun k => c.testBit (k ^^^ 2 ^ v))))), some (.int (nI k))] [] (M) (L)) (fun k hk ih => ?_) ?_
  · refine tm_iload_4 7 rfl dX10_turned_5 ?_
    refine tm_aload_0 8 rfl dX10_turned_7 ?_
    refine tm_callV_I (ci := 9) (c_X10_lots hn h4) mv_X10_lots ml_X10_56 rfl rfl rfl rfl rfl (Nat.le_of_ble_eq_true rfl) 11 rfl dX10_turned_8 ?_
    refine tm_icmp_ge_f 14 (nI_ge hk (by omega)) rfl rfl dX10_turned_11 ?_
    refine tm_iload_3 15 rfl dX10_turned_14 ?_
    refine tm_iload_1 16 rfl dX10_turned_15 ?_
    refine tm_iload_4 18 rfl dX10_turned_16 ?_
    refine tm_iconst (1) rfl 19 rfl dX10_turned_18 ?_
    refine tm_iload_2 20 rfl dX10_turned_19 ?_
    refine tm_ishl 21 rfl dX10_turned_20 ?_
    rw [sh_1 v (by omega)]
    refine tm_ixor 22 rfl dX10_turned_21 ?_
    rw [fb_xorI]
    refine tm_callS_I (c_X10_is hc (k := k ^^^ 2 ^ v) (by have := xor16 (show k < 16 by omega) hv2; omega)) ms_X10_is ml_X10_97 rfl rfl (Nat.le_of_ble_eq_true rfl) 25 rfl dX10_turned_22 ?_
    refine tm_callS_I (c_X10_bit) ms_X10_bit ml_X10_90 rfl rfl (Nat.le_of_ble_eq_true rfl) 28 rfl dX10_turned_25 ?_
    refine tm_iload_4 30 rfl dX10_turned_28 ?_
    refine tm_ishl 31 rfl dX10_turned_30 ?_
    refine tm_ior 32 rfl dX10_turned_31 ?_
    rw [orb _ (by omega)]
    refine tm_istore_3 (by decide) rfl 33 rfl dX10_turned_32 ?_
    refine tm_iinc_4 (nI (k + 1)) (iinc1 k) (by decide) rfl 36 rfl dX10_turned_33 ?_
    refine tm_goto 5 rfl dX10_turned_36 ?_
    exact ih
  · refine tm_iload_4 7 rfl dX10_turned_5 ?_
    refine tm_aload_0 8 rfl dX10_turned_7 ?_
    refine tm_callV_I (ci := 9) (c_X10_lots hn h4) mv_X10_lots ml_X10_56 rfl rfl rfl rfl rfl (Nat.le_of_ble_eq_true rfl) 11 rfl dX10_turned_8 ?_
    refine tm_icmp_ge_t 39 (nI_le (Nat.le_refl _) (by omega)) rfl dX10_turned_11 ?_
    refine tm_iload_3 40 rfl dX10_turned_39 ?_
    exact tm_iret rfl rfl rfl dX10_turned_40


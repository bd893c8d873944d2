theorem cnt_x8 (f : Nat → Bool) : cnt f 4 = (if f 0 then 1 else 0) + (if f 1 then 1 else 0) + (if f 2 then 1 else 0) + (if f 3 then 1 else 0) := by
  show 0 + _ + _ + _ + _ = _
  rw [Nat.zero_add]
/-- a block of 2 ^ (v + 1) lots: its halves change places -/
theorem cnt_blk (f : Nat → Bool) (a s : Nat) : cnt (fun k => f (a + k)) (s + s) = cnt (fun k => if k < s then f (a + (s + k)) else f (a + (k - s))) (s + s) := by
  rw [cnt_split, cnt_split, Nat.add_comm]
  congr 1
  · exact cnt_congr (fun k hk => by rw [if_pos hk])
  · exact cnt_congr (fun k hk => by rw [if_neg (by omega), show s + k - s = k by omega])
theorem xb_1 : ∀ v, v < 4 → ∀ j, j < 8 → ∀ k, k < 2 ^ v + 2 ^ v → j * (2 ^ v + 2 ^ v) + k < 16 → (j * (2 ^ v + 2 ^ v) + k) ^^^ 2 ^ v = j * (2 ^ v + 2 ^ v) + (if k < 2 ^ v then 2 ^ v + k else k - 2 ^ v) := by decide +kernel
theorem cnt_xj (f : Nat → Bool) {v : Nat} (hv : v < 4) : ∀ m, m * (2 ^ v + 2 ^ v) ≤ 16 → cnt (fun k => f (k ^^^ 2 ^ v)) (m * (2 ^ v + 2 ^ v)) = cnt f (m * (2 ^ v + 2 ^ v))
  | 0, _ => by rw [Nat.zero_mul]; rfl
  | m + 1, h => by
    have hp := Nat.two_pow_pos v
    have e : (m + 1) * (2 ^ v + 2 ^ v) = m * (2 ^ v + 2 ^ v) + (2 ^ v + 2 ^ v) := by rw [Nat.add_mul, Nat.one_mul]
    rw [e] at h ⊢
    rw [cnt_split (fun k => f (k ^^^ 2 ^ v)) (m * (2 ^ v + 2 ^ v)) (2 ^ v + 2 ^ v), cnt_split f (m * (2 ^ v + 2 ^ v)) (2 ^ v + 2 ^ v), cnt_xj f hv m (by omega)]
    congr 1
    rw [cnt_blk f]
    refine cnt_congr (fun k hk => ?_)
    have hm : m < 8 := by
      have : m * 2 ≤ m * (2 ^ v + 2 ^ v) := Nat.mul_le_mul_left m (by omega)
      omega
    show f ((m * (2 ^ v + 2 ^ v) + k) ^^^ 2 ^ v) = _
    rw [xb_1 v hv m hm k hk (by omega)]
    by_cases q : k < 2 ^ v
    · rw [if_pos q, if_pos q]
    · rw [if_neg q, if_neg q]
theorem cnt_xor (f : Nat → Bool) {n v : Nat} (h4 : n ≤ 4) (hv : v < n) : cnt (fun k => f (k ^^^ 2 ^ v)) (2 ^ n) = cnt f (2 ^ n) := by
  have e : 2 ^ n = 2 ^ (n - v - 1) * (2 ^ v + 2 ^ v) := by
    rw [← Nat.two_mul, ← Nat.pow_succ', ← Nat.pow_add]
    congr 1
    omega
  have h16 := pow4 h4
  rw [e] at h16 ⊢
  exact cnt_xj f (by omega) _ h16
/-- the swings of a voter -/
def swP (c v k : Nat) : Bool := !k.testBit v && (c.testBit k ^^ c.testBit (k ||| 2 ^ v))
theorem sw_k {n c v : Nat} (h4 : n ≤ 4) (hv : v < n) : cnt (lsN n c v).testBit 16 + cnt (lsN n (opN n c) v).testBit 16 = cnt (swP c v) (2 ^ n) := by
  have h16 := pow4 h4
  unfold lsN
  rw [cnt_bits h16, cnt_bits h16, ← cnt_or (fun k hk => ?_), ← cnt_xor (swP c v) h4 hv]
  · refine cnt_congr (fun k hk => ?_)
    show (_ || _) = swP c v (k ^^^ 2 ^ v)
    rw [opN_t (xlt hk hv), opN_t hk]
    unfold swP
    rw [tb_xs]
    cases hb : k.testBit v
    · simp
    · rw [or_x (by rw [tb_xs, hb]; rfl), Nat.xor_assoc, Nat.xor_self, Nat.xor_zero]
      cases c.testBit (k ^^^ 2 ^ v) <;> cases c.testBit k <;> rfl
  · rintro ⟨h1, h2⟩
    rw [opN_t (xlt hk hv), opN_t hk] at h2
    revert h1 h2
    cases c.testBit (k ^^^ 2 ^ v) <;> cases c.testBit k <;> simp
set_option maxRecDepth 100000 in
set_option maxHeartbeats 4000000 in
theorem c_X0_swingsOf {g : GC} {d : Nat} {M : MI} {L : ML} {n c v : Nat} (h4 : n ≤ 4) (hc : c < 2 ^ 2 ^ n) (hv : v < n) : CfI g (d + 3) yX0_swingsOf cX0_swingsOf 3 .int [.int (nI n), .int (nI c), .int (nI v)] M L (nI (cnt (swP c v) (2 ^ n))) (M) (L) := by
  have h65 := p65 h4
  have l1 := lsN_lt n c v
  have l2 := lsN_lt n (opN n c) v
  refine cfI_of (own := RX0) (l := [some (.int (nI n)), some (.int (nI c)), some (.int (nI v))]) 0 rfl rfl rfl (Nat.le_of_ble_eq_true rfl) ?_
  refine tm_iload_1 1 rfl dX0_swingsOf_0 ?_
  refine tm_iload_2 2 rfl dX0_swingsOf_1 ?_
  refine tm_callS_I (c_X0_losesBy h4 hc hv) ms_X0_losesBy ml_X0_35 rfl rfl (Nat.le_of_ble_eq_true rfl) 5 rfl dX0_swingsOf_2 ?_
  refine tm_callS_I (c_J6_bitCount_0f7a4 (x := lsN n c v) (by omega)) ms_J6_bitCount_0f7a4 ml_X0_38 rfl rfl (Nat.le_of_ble_eq_true rfl) 8 rfl dX0_swingsOf_5 ?_
  refine tm_iload_0 9 rfl dX0_swingsOf_8 ?_
  refine tm_iload_1 10 rfl dX0_swingsOf_9 ?_
  refine tm_iload_2 11 rfl dX0_swingsOf_10 ?_
  refine tm_callS_I (c_X0_winsBy h4 hc hv) ms_X0_winsBy ml_X0_43 rfl rfl (Nat.le_of_ble_eq_true rfl) 14 rfl dX0_swingsOf_11 ?_
  refine tm_callS_I (c_J6_bitCount_0f7a4 (x := lsN n (opN n c) v) (by omega)) ms_J6_bitCount_0f7a4 ml_X0_38 rfl rfl (Nat.le_of_ble_eq_true rfl) 17 rfl dX0_swingsOf_14 ?_
  refine tm_iadd 18 rfl dX0_swingsOf_17 ?_
  exact tm_iret (by rw [nI_add, sw_k h4 hv]) rfl rfl dX0_swingsOf_18

def ansSw (σ : AS) (v : Int32) : Int32 := if inN v σ.1 = false then -1 else nI (cnt (swP σ.2.1 (iN v)) (2 ^ σ.1))
theorem sw_1 {σ : AS} {v : Int32} (h : inN v σ.1 = false) : ansSw σ v = -1 := by unfold ansSw; rw [if_pos h]
theorem sw_2 {σ : AS} {k : Nat} (hk : k < 2 ^ 31) (h : inN (nI k) σ.1 = true) : ansSw σ (nI k) = nI (cnt (swP σ.2.1 k) (2 ^ σ.1)) := by unfold ansSw; rw [if_neg (by rw [h]; decide), iN_nI hk]
set_option maxRecDepth 100000 in
set_option maxHeartbeats 4000000 in
theorem c_X9_swings {g : GC} {d : Nat} {M : MI} {L : ML} {σ : AS} (hC : hasC M σ) (hσ : okS σ) {x : Int32} : CfI g (d + 4) yX9_swings cX9_swings 2 .int [rf g 0, .int x] M L (ansSw σ x) (M) (L) := by
  have hn := hC.1
  have h4 := hσ.2.1
  have h16 := pow4 h4
  have hp1 := Nat.two_pow_pos σ.1
  have hc := okp hσ
  refine cfI_of (own := RX9) (l := [some (rf g 0), some (.int x)]) 0 rfl rfl rfl (Nat.le_of_ble_eq_true rfl) ?_
  refine tm_aload_0 1 rfl dX9_swings_0 ?_
  refine tm_getr fl_X9_12 rfl rfl 4 rfl dX9_swings_1 ?_
  refine tm_iload_1 5 rfl dX9_swings_4 ?_
  refine tm_callV_I (ci := 3) (c_X4_hasVoter hC hσ) mv_X4_hasVoter ml_X9_98 rfl rfl rfl rfl rfl (Nat.le_of_ble_eq_true rfl) 8 rfl dX9_swings_5 ?_
  refine tm_if_eqB 32 11 rfl rfl dX9_swings_8 (fun h8 => ?_) (fun h8 => ?_)
  · refine tm_iconst (-1) rfl 33 rfl dX9_swings_32 ?_
    exact tm_iret (by first | exact (sw_1 h8).symm | exact (sw_2 (by omega) h8).symm) rfl rfl dX9_swings_33
  · obtain ⟨k, hk, rfl⟩ := inN_of h8
    refine tm_aload_0 12 rfl dX9_swings_11 ?_
    refine tm_getr fl_X9_12 rfl rfl 15 rfl dX9_swings_12 ?_
    refine tm_geti fl_X9_67 rfl rfl 18 rfl dX9_swings_15 ?_
    rw [hn]
    refine tm_aload_0 19 rfl dX9_swings_18 ?_
    refine tm_getr fl_X9_12 rfl rfl 22 rfl dX9_swings_19 ?_
    refine tm_geti fl_X9_82 rfl rfl 25 rfl dX9_swings_22 ?_
    rw [hC.2.1]
    refine tm_iload_1 26 rfl dX9_swings_25 ?_
    refine tm_callS_I (c_X0_swingsOf h4 hσ.2.2.1 hk) ms_X0_swingsOf ml_X9_240 rfl rfl (Nat.le_of_ble_eq_true rfl) 29 rfl dX9_swings_26 ?_
    refine tm_goto 33 rfl dX9_swings_29 ?_
    exact tm_iret (by first | exact (sw_1 h8).symm | exact (sw_2 (by omega) h8).symm) rfl rfl dX9_swings_33

set_option maxRecDepth 100000 in
set_option maxHeartbeats 4000000 in
theorem c_X10_swings_no {g : GC} {d : Nat} {M : MI} {L : ML} {σ : AS} (hM : hasM M σ) (hσ : okS σ) {x : Int32} (hx : inN x σ.1 = false) : CfI g (d + 2) yX10_swings cX10_swings 4 .int [rf g 54, .int x] M L (ansSw σ x) (M) (L) := by
  have hn := hM.1
  have h4 := hσ.2.1
  have h16 := pow4 h4
  have hp1 := Nat.two_pow_pos σ.1
  have hc := okp hσ
  refine cfI_of (own := RX10) (l := [some (rf g 54), some (.int x), none, none]) 2 rfl rfl rfl (Nat.le_of_ble_eq_true rfl) ?_
  refine tm_aload_0 1 rfl dX10_swings_0 ?_
  refine tm_iload_1 2 rfl dX10_swings_1 ?_
  refine tm_callV_I (ci := 9) (c_X10_isVoter hn h4 (by have := hσ.1; omega)) mv_X10_isVoter ml_X10_75 rfl rfl rfl rfl rfl (Nat.le_of_ble_eq_true rfl) 5 rfl dX10_swings_2 ?_
  refine tm_if_ne_f 8 ((bI_0 _).mpr hx) rfl rfl dX10_swings_5 ?_
  refine tm_iconst (-1) rfl 9 rfl dX10_swings_8 ?_
  exact tm_iret (sw_1 hx).symm rfl rfl dX10_swings_9

set_option maxRecDepth 100000 in
set_option maxHeartbeats 4000000 in
theorem c_X10_swings_v {g : GC} {d : Nat} {M : MI} {L : ML} {σ : AS} (hM : hasM M σ) (hσ : okS σ) {v : Nat} (hv : v < σ.1) : CfI g (d + 2) yX10_swings cX10_swings 4 .int [rf g 54, .int (nI v)] M L (nI (cnt (swP σ.2.1 v) (2 ^ σ.1))) (M) (L) := by
  have hn := hM.1
  have h4 := hσ.2.1
  have h16 := pow4 h4
  have hp1 := Nat.two_pow_pos σ.1
  have hc := okp hσ
  have hin : inN (nI v) σ.1 = true := by rw [inN_nI (by omega)]; exact decide_eq_true hv
  refine cfI_of (own := RX10) (l := [some (rf g 54), some (.int (nI v)), none, none]) 2 rfl rfl rfl (Nat.le_of_ble_eq_true rfl) ?_
  refine tm_aload_0 1 rfl dX10_swings_0 ?_
  refine tm_iload_1 2 rfl dX10_swings_1 ?_
  refine tm_callV_I (ci := 9) (c_X10_isVoter hn h4 (by have := hσ.1; omega)) mv_X10_isVoter ml_X10_75 rfl rfl rfl rfl rfl (Nat.le_of_ble_eq_true rfl) 5 rfl dX10_swings_2 ?_
  refine tm_if_ne_t 10 ((bI_n0 _).mpr hin) rfl dX10_swings_5 ?_
  refine tm_iconst (0) rfl 11 rfl dX10_swings_10 ?_
  refine tm_istore_2 (by decide) rfl 12 rfl dX10_swings_11 ?_
  refine tm_iconst (0) rfl 13 rfl dX10_swings_12 ?_
  refine tm_istore_3 (by decide) rfl 14 rfl dX10_swings_13 ?_
  refine tm_loop (N := 2 ^ σ.1) (fun k => Tm g (d + 2) RX10 cX10_swings 4 (some .int) (QI g (nI (cnt (swP σ.2.1 v) (2 ^ σ.1))) (M) (L)) 14 [some (rf g 54), some (.int (nI v)), some (.int (nI (cnt (swP σ.2.1 v) k))), some (.int (nI k))] [] (M) (L)) (fun k hk ih => ?_) ?_
  · refine tm_iload_3 15 rfl dX10_swings_14 ?_
    refine tm_aload_0 16 rfl dX10_swings_15 ?_
    refine tm_callV_I (ci := 9) (c_X10_lots hn h4) mv_X10_lots ml_X10_56 rfl rfl rfl rfl rfl (Nat.le_of_ble_eq_true rfl) 19 rfl dX10_swings_16 ?_
    refine tm_icmp_ge_f 22 (nI_ge hk (by omega)) rfl rfl dX10_swings_19 ?_
    refine tm_iload_2 23 rfl dX10_swings_22 ?_
    refine tm_iload_3 24 rfl dX10_swings_23 ?_
    refine tm_iload_1 25 rfl dX10_swings_24 ?_
    refine tm_ishr 26 rfl dX10_swings_25 ?_
    refine tm_iconst (1) rfl 27 rfl dX10_swings_26 ?_
    refine tm_iand 28 rfl dX10_swings_27 ?_
    refine tm_join1 63 (bI (swP σ.2.1 v k)) ?_ (fun hJ63 => ?_)
    · refine tm_iadd 64 rfl dX10_swings_63 ?_
      rw [cnt_add]
      refine tm_istore_2 (by decide) rfl 65 rfl dX10_swings_64 ?_
      refine tm_iinc_3 (nI (k + 1)) (iinc1 k) (by decide) rfl 68 rfl dX10_swings_65 ?_
      refine tm_goto 14 rfl dX10_swings_68 ?_
      exact ih
    · rw [bit_1 (by omega) (by omega)]
      refine tm_if_ne 62 31 rfl rfl dX10_swings_28 (fun h28 => ?_) (fun h28 => ?_)
      · refine tm_iconst (0) rfl 63 rfl dX10_swings_62 ?_
        exact tm_top (by first | (have hb := (bI_n0 _).mp h28; unfold swP; rw [hb]; rfl) | (have hb := (bI_0 _).mp h28; unfold swP; rw [hb]; revert h55; cases σ.2.1.testBit k <;> cases σ.2.1.testBit (k ||| 2 ^ v) <;> simp [bI])) hJ63
      · refine tm_aload_0 32 rfl dX10_swings_31 ?_
        refine tm_getr fl_X10_11 rfl rfl 35 rfl dX10_swings_32 ?_
        refine tm_iconst (1) rfl 36 rfl dX10_swings_35 ?_
        refine tm_ald rfl (ix := 1) ⟨by decide, by decide, by decide⟩ 37 rfl dX10_swings_36 ?_
        rw [hM.2.1]
        refine tm_iload_3 38 rfl dX10_swings_37 ?_
        refine tm_callS_I (c_X10_is (c := σ.2.1) (k := k) (by omega) (by omega)) ms_X10_is ml_X10_97 rfl rfl (Nat.le_of_ble_eq_true rfl) 41 rfl dX10_swings_38 ?_
        refine tm_aload_0 42 rfl dX10_swings_41 ?_
        refine tm_getr fl_X10_11 rfl rfl 45 rfl dX10_swings_42 ?_
        refine tm_iconst (1) rfl 46 rfl dX10_swings_45 ?_
        refine tm_ald rfl (ix := 1) ⟨by decide, by decide, by decide⟩ 47 rfl dX10_swings_46 ?_
        rw [hM.2.1]
        refine tm_iload_3 48 rfl dX10_swings_47 ?_
        refine tm_iconst (1) rfl 49 rfl dX10_swings_48 ?_
        refine tm_iload_1 50 rfl dX10_swings_49 ?_
        refine tm_ishl 51 rfl dX10_swings_50 ?_
        refine tm_ior 52 rfl dX10_swings_51 ?_
        rw [sh_1 v (by omega), fa_or]
        refine tm_callS_I (c_X10_is (c := σ.2.1) (k := k ||| 2 ^ v) (by omega) (by have := or_lt hk hv; omega)) ms_X10_is ml_X10_97 rfl rfl (Nat.le_of_ble_eq_true rfl) 55 rfl dX10_swings_52 ?_
        refine tm_icmp_eq 62 58 rfl rfl dX10_swings_55 (fun h55 => ?_) (fun h55 => ?_)
        · refine tm_iconst (0) rfl 63 rfl dX10_swings_62 ?_
          exact tm_top (by first | (have hb := (bI_n0 _).mp h28; unfold swP; rw [hb]; rfl) | (have hb := (bI_0 _).mp h28; unfold swP; rw [hb]; revert h55; cases σ.2.1.testBit k <;> cases σ.2.1.testBit (k ||| 2 ^ v) <;> simp [bI])) hJ63
        · refine tm_iconst (1) rfl 59 rfl dX10_swings_58 ?_
          refine tm_goto 63 rfl dX10_swings_59 ?_
          exact tm_top (by first | (have hb := (bI_n0 _).mp h28; unfold swP; rw [hb]; rfl) | (have hb := (bI_0 _).mp h28; unfold swP; rw [hb]; revert h55; cases σ.2.1.testBit k <;> cases σ.2.1.testBit (k ||| 2 ^ v) <;> simp [bI])) hJ63
  · refine tm_iload_3 15 rfl dX10_swings_14 ?_
    refine tm_aload_0 16 rfl dX10_swings_15 ?_
    refine tm_callV_I (ci := 9) (c_X10_lots hn h4) mv_X10_lots ml_X10_56 rfl rfl rfl rfl rfl (Nat.le_of_ble_eq_true rfl) 19 rfl dX10_swings_16 ?_
    refine tm_icmp_ge_t 71 (nI_le (Nat.le_refl _) (by omega)) rfl dX10_swings_19 ?_
    refine tm_iload_2 72 rfl dX10_swings_71 ?_
    exact tm_iret rfl rfl rfl dX10_swings_72

theorem c_X10_swings {g : GC} {d : Nat} {M : MI} {L : ML} {σ : AS} (hM : hasM M σ) (hσ : okS σ) {x : Int32} : CfI g (d + 2) yX10_swings cX10_swings 4 .int [rf g 54, .int x] M L (ansSw σ x) (M) (L) := by
  cases h : inN x σ.1
  · exact c_X10_swings_no hM hσ h
  · obtain ⟨v, hv, rfl⟩ := inN_of h
    have := hσ.2.1
    rw [sw_2 (by omega) h]
    exact c_X10_swings_v hM hσ hv
def ansChow (σ : AS) (v : Int32) : Int32 := if v = -1 then nI (cnt σ.2.1.testBit (2 ^ σ.1)) else if inN v σ.1 = false then -1 else nI (cnt (fun k => σ.2.1.testBit k && k.testBit (iN v)) (2 ^ σ.1))
theorem cho_1 {σ : AS} : ansChow σ (-1) = nI (cnt σ.2.1.testBit (2 ^ σ.1)) := if_pos rfl
theorem cho_2 {σ : AS} {v : Int32} (h0 : ¬ v = -1) (h : inN v σ.1 = false) : ansChow σ v = -1 := by unfold ansChow; rw [if_neg h0, if_pos h]
theorem cho_3 {σ : AS} {k : Nat} (hk : k < 2 ^ 31) (h : inN (nI k) σ.1 = true) : ansChow σ (nI k) = nI (cnt (fun q => σ.2.1.testBit q && q.testBit k) (2 ^ σ.1)) := by unfold ansChow; rw [if_neg (neg_ne hk), if_neg (by rw [h]; decide), iN_nI hk]
theorem cho_k {n c v : Nat} (h4 : n ≤ 4) (hc : c < 2 ^ 2 ^ n) (hv : v < n) : cnt (c &&& wW v).testBit 16 = cnt (fun q => c.testBit q && q.testBit v) (2 ^ n) := by
  have h16 := pow4 h4
  rw [cnt_16 h16 (Nat.lt_of_le_of_lt Nat.and_le_left hc)]
  refine cnt_congr (fun k hk => ?_)
  rw [Nat.testBit_and, wW_t v (by omega) k (by omega), decide_eq_true (show k < 16 by omega), Bool.true_and]
set_option maxRecDepth 100000 in
set_option maxHeartbeats 4000000 in
theorem c_X9_chow {g : GC} {d : Nat} {M : MI} {L : ML} {σ : AS} (hC : hasC M σ) (hσ : okS σ) {x : Int32} : CfI g (d + 2) yX9_chow cX9_chow 2 .int [rf g 0, .int x] M L (ansChow σ x) (M) (L) := by
  have hn := hC.1
  have h4 := hσ.2.1
  have h16 := pow4 h4
  have hp1 := Nat.two_pow_pos σ.1
  have hc := okp hσ
  refine cfI_of (own := RX9) (l := [some (rf g 0), some (.int x)]) 0 rfl rfl rfl (Nat.le_of_ble_eq_true rfl) ?_
  refine tm_iload_1 1 rfl dX9_chow_0 ?_
  refine tm_iconst (-1) rfl 2 rfl dX9_chow_1 ?_
  refine tm_icmp_ne 16 5 rfl rfl dX9_chow_2 (fun h2 => ?_) (fun h2 => ?_)
  · refine tm_aload_0 17 rfl dX9_chow_16 ?_
    refine tm_getr fl_X9_12 rfl rfl 20 rfl dX9_chow_17 ?_
    refine tm_iload_1 21 rfl dX9_chow_20 ?_
    refine tm_callV_I (ci := 3) (c_X4_hasVoter hC hσ) mv_X4_hasVoter ml_X9_98 rfl rfl rfl rfl rfl (Nat.le_of_ble_eq_true rfl) 24 rfl dX9_chow_21 ?_
    refine tm_if_eqB 45 27 rfl rfl dX9_chow_24 (fun h24 => ?_) (fun h24 => ?_)
    · refine tm_iconst (-1) rfl 46 rfl dX9_chow_45 ?_
      exact tm_iret (by first | exact (cho_2 h2 h24).symm | rw [cho_3 (by omega) h24, cho_k h4 hσ.2.2.1 hk]) rfl rfl dX9_chow_46
    · obtain ⟨k, hk, rfl⟩ := inN_of h24
      refine tm_aload_0 28 rfl dX9_chow_27 ?_
      refine tm_getr fl_X9_12 rfl rfl 31 rfl dX9_chow_28 ?_
      refine tm_geti fl_X9_82 rfl rfl 34 rfl dX9_chow_31 ?_
      rw [hC.2.1]
      refine tm_iload_1 35 rfl dX9_chow_34 ?_
      refine tm_callS_I (c_X0_with (v := k) (by omega)) ms_X0_with ml_X9_225 rfl rfl (Nat.le_of_ble_eq_true rfl) 38 rfl dX9_chow_35 ?_
      refine tm_iand 39 rfl dX9_chow_38 ?_
      rw [fa_and]
      refine tm_callS_I (c_J6_bitCount_0f7a4 (x := σ.2.1 &&& wW k) (Nat.lt_of_le_of_lt Nat.and_le_left hc)) ms_J6_bitCount_0f7a4 ml_X9_210 rfl rfl (Nat.le_of_ble_eq_true rfl) 42 rfl dX9_chow_39 ?_
      refine tm_goto 46 rfl dX9_chow_42 ?_
      exact tm_iret (by first | exact (cho_2 h2 h24).symm | rw [cho_3 (by omega) h24, cho_k h4 hσ.2.2.1 hk]) rfl rfl dX9_chow_46
  · refine tm_aload_0 6 rfl dX9_chow_5 ?_
    refine tm_getr fl_X9_12 rfl rfl 9 rfl dX9_chow_6 ?_
    refine tm_geti fl_X9_82 rfl rfl 12 rfl dX9_chow_9 ?_
    rw [hC.2.1]
    refine tm_callS_I (c_J6_bitCount_0f7a4 hc) ms_J6_bitCount_0f7a4 ml_X9_210 rfl rfl (Nat.le_of_ble_eq_true rfl) 15 rfl dX9_chow_12 ?_
    exact tm_iret (by rw [h2, cho_1, cnt_16 h16 hσ.2.2.1]) rfl rfl dX9_chow_15

set_option maxRecDepth 100000 in
set_option maxHeartbeats 4000000 in
theorem c_X10_chowOf_all {g : GC} {d : Nat} {M : MI} {L : ML} {n : Nat} (hn : M 55 0 = nI n) (h4 : n ≤ 4) {c : Nat} (hc : c < 2 ^ 31) : CfI g (d + 1) yX10_chowOf cX10_chowOf 5 .int [rf g 54, .int (nI c), .int (-1)] M L (nI (cnt c.testBit (2 ^ n))) (M) (L) := by
  have h16 := pow4 h4
  have hp1 := Nat.two_pow_pos n
  refine cfI_of (own := RX10) (l := [some (rf g 54), some (.int (nI c)), some (.int (-1)), none, none]) 2 rfl rfl rfl (Nat.le_of_ble_eq_true rfl) ?_
  refine tm_iconst (0) rfl 1 rfl dX10_chowOf_0 ?_
  refine tm_istore_3 (by decide) rfl 2 rfl dX10_chowOf_1 ?_
  refine tm_iconst (0) rfl 3 rfl dX10_chowOf_2 ?_
  refine tm_istore_4 (by decide) rfl 5 rfl dX10_chowOf_3 ?_
  refine tm_loop (N := 2 ^ n) (fun k => Tm g (d + 1) RX10 cX10_chowOf 5 (some .int) (QI g (nI (cnt c.testBit (2 ^ n))) (M) (L)) 5 [some (rf g 54), some (.int (nI c)), some (.int (-1)), some (.int (nI (cnt c.testBit k))), some (.int (nI k))] [] (M) (L)) (fun k hk ih => ?_) ?_
  · refine tm_iload_4 7 rfl dX10_chowOf_5 ?_
    refine tm_aload_0 8 rfl dX10_chowOf_7 ?_
    refine tm_callV_I (ci := 9) (c_X10_lots hn h4) mv_X10_lots ml_X10_56 rfl rfl rfl rfl rfl (Nat.le_of_ble_eq_true rfl) 11 rfl dX10_chowOf_8 ?_
    refine tm_icmp_ge_f 14 (nI_ge hk (by omega)) rfl rfl dX10_chowOf_11 ?_
    refine tm_iload_3 15 rfl dX10_chowOf_14 ?_
    refine tm_iload_1 16 rfl dX10_chowOf_15 ?_
    refine tm_iload_4 18 rfl dX10_chowOf_16 ?_
    refine tm_callS_I (c_X10_is hc (k := k) (by omega)) ms_X10_is ml_X10_97 rfl rfl (Nat.le_of_ble_eq_true rfl) 21 rfl dX10_chowOf_18 ?_
    refine tm_join1 43 (bI (c.testBit k)) ?_ (fun hJ43 => ?_)
    · refine tm_iadd 44 rfl dX10_chowOf_43 ?_
      rw [cnt_add]
      refine tm_istore_3 (by decide) rfl 45 rfl dX10_chowOf_44 ?_
      refine tm_iinc_4 (nI (k + 1)) (iinc1 k) (by decide) rfl 48 rfl dX10_chowOf_45 ?_
      refine tm_goto 5 rfl dX10_chowOf_48 ?_
      exact ih
    · refine tm_if_eqB 42 24 rfl rfl dX10_chowOf_21 (fun h21 => ?_) (fun h21 => ?_)
      · refine tm_iconst (0) rfl 43 rfl dX10_chowOf_42 ?_
        exact tm_top (by rw [h21]; rfl) hJ43
      · refine tm_iload_2 25 rfl dX10_chowOf_24 ?_
        refine tm_if_lt_t 38 (by decide) rfl dX10_chowOf_25 ?_
        refine tm_iconst (1) rfl 39 rfl dX10_chowOf_38 ?_
        refine tm_goto 43 rfl dX10_chowOf_39 ?_
        exact tm_top (by rw [h21]; rfl) hJ43
  · refine tm_iload_4 7 rfl dX10_chowOf_5 ?_
    refine tm_aload_0 8 rfl dX10_chowOf_7 ?_
    refine tm_callV_I (ci := 9) (c_X10_lots hn h4) mv_X10_lots ml_X10_56 rfl rfl rfl rfl rfl (Nat.le_of_ble_eq_true rfl) 11 rfl dX10_chowOf_8 ?_
    refine tm_icmp_ge_t 51 (nI_le (Nat.le_refl _) (by omega)) rfl dX10_chowOf_11 ?_
    refine tm_iload_3 52 rfl dX10_chowOf_51 ?_
    exact tm_iret rfl rfl rfl dX10_chowOf_52

set_option maxRecDepth 100000 in
set_option maxHeartbeats 4000000 in
theorem c_X10_chowOf_v {g : GC} {d : Nat} {M : MI} {L : ML} {n : Nat} (hn : M 55 0 = nI n) (h4 : n ≤ 4) {c v : Nat} (hc : c < 2 ^ 31) (hv : v < n) : CfI g (d + 1) yX10_chowOf cX10_chowOf 5 .int [rf g 54, .int (nI c), .int (nI v)] M L (nI (cnt (fun q => c.testBit q && q.testBit v) (2 ^ n))) (M) (L) := by
  have h16 := pow4 h4
  have hp1 := Nat.two_pow_pos n
  refine cfI_of (own := RX10) (l := [some (rf g 54), some (.int (nI c)), some (.int (nI v)), none, none]) 2 rfl rfl rfl (Nat.le_of_ble_eq_true rfl) ?_
  refine tm_iconst (0) rfl 1 rfl dX10_chowOf_0 ?_
  refine tm_istore_3 (by decide) rfl 2 rfl dX10_chowOf_1 ?_
  refine tm_iconst (0) rfl 3 rfl dX10_chowOf_2 ?_
  refine tm_istore_4 (by decide) rfl 5 rfl dX10_chowOf_3 ?_
  refine tm_loop (N := 2 ^ n) (fun k => Tm g (d + 1) RX10 cX10_chowOf 5 (some .int) (QI g (nI (cnt (fun q => c.testBit q && q.testBit v) (2 ^ n))) (M) (L)) 5 [some (rf g 54), some (.int (nI c)), some (.int (nI v)), some (.int (nI (cnt (fun q => c.testBit q && q.testBit v) k))), some (.int (nI k))] [] (M) (L)) (fun k hk ih => ?_) ?_
  · refine tm_iload_4 7 rfl dX10_chowOf_5 ?_
    refine tm_aload_0 8 rfl dX10_chowOf_7 ?_
    refine tm_callV_I (ci := 9) (c_X10_lots hn h4) mv_X10_lots ml_X10_56 rfl rfl rfl rfl rfl (Nat.le_of_ble_eq_true rfl) 11 rfl dX10_chowOf_8 ?_
    refine tm_icmp_ge_f 14 (nI_ge hk (by omega)) rfl rfl dX10_chowOf_11 ?_
    refine tm_iload_3 15 rfl dX10_chowOf_14 ?_
    refine tm_iload_1 16 rfl dX10_chowOf_15 ?_
    refine tm_iload_4 18 rfl dX10_chowOf_16 ?_
    refine tm_callS_I (c_X10_is hc (k := k) (by omega)) ms_X10_is ml_X10_97 rfl rfl (Nat.le_of_ble_eq_true rfl) 21 rfl dX10_chowOf_18 ?_
    refine tm_join1 43 (bI (c.testBit k && k.testBit v)) ?_ (fun hJ43 => ?_)
    · refine tm_iadd 44 rfl dX10_chowOf_43 ?_
      rw [cnt_add (fun q => c.testBit q && q.testBit v)]
      refine tm_istore_3 (by decide) rfl 45 rfl dX10_chowOf_44 ?_
      refine tm_iinc_4 (nI (k + 1)) (iinc1 k) (by decide) rfl 48 rfl dX10_chowOf_45 ?_
      refine tm_goto 5 rfl dX10_chowOf_48 ?_
      exact ih
    · refine tm_if_eqB 42 24 rfl rfl dX10_chowOf_21 (fun h21 => ?_) (fun h21 => ?_)
      · refine tm_iconst (0) rfl 43 rfl dX10_chowOf_42 ?_
        exact tm_top (by first | (rw [h21, (bI_1 _).mp h35]; rfl) | (rw [h21, (bI_n1 _).mp h35]; rfl) | (rw [h21]; rfl)) hJ43
      · refine tm_iload_2 25 rfl dX10_chowOf_24 ?_
        refine tm_if_lt_f 28 (nI_pos (by omega)) rfl rfl dX10_chowOf_25 ?_
        refine tm_iload_4 30 rfl dX10_chowOf_28 ?_
        refine tm_iload_2 31 rfl dX10_chowOf_30 ?_
        refine tm_ishr 32 rfl dX10_chowOf_31 ?_
        refine tm_iconst (1) rfl 33 rfl dX10_chowOf_32 ?_
        refine tm_iand 34 rfl dX10_chowOf_33 ?_
        rw [bit_1 (by omega) (by omega)]
        refine tm_iconst (1) rfl 35 rfl dX10_chowOf_34 ?_
        refine tm_icmp_ne 42 38 rfl rfl dX10_chowOf_35 (fun h35 => ?_) (fun h35 => ?_)
        · refine tm_iconst (0) rfl 43 rfl dX10_chowOf_42 ?_
          exact tm_top (by first | (rw [h21, (bI_1 _).mp h35]; rfl) | (rw [h21, (bI_n1 _).mp h35]; rfl) | (rw [h21]; rfl)) hJ43
        · refine tm_iconst (1) rfl 39 rfl dX10_chowOf_38 ?_
          refine tm_goto 43 rfl dX10_chowOf_39 ?_
          exact tm_top (by first | (rw [h21, (bI_1 _).mp h35]; rfl) | (rw [h21, (bI_n1 _).mp h35]; rfl) | (rw [h21]; rfl)) hJ43
  · refine tm_iload_4 7 rfl dX10_chowOf_5 ?_
    refine tm_aload_0 8 rfl dX10_chowOf_7 ?_
    refine tm_callV_I (ci := 9) (c_X10_lots hn h4) mv_X10_lots ml_X10_56 rfl rfl rfl rfl rfl (Nat.le_of_ble_eq_true rfl) 11 rfl dX10_chowOf_8 ?_
    refine tm_icmp_ge_t 51 (nI_le (Nat.le_refl _) (by omega)) rfl dX10_chowOf_11 ?_
    refine tm_iload_3 52 rfl dX10_chowOf_51 ?_
    exact tm_iret rfl rfl rfl dX10_chowOf_52

set_option maxRecDepth 100000 in
set_option maxHeartbeats 4000000 in
theorem c_X10_chow_all {g : GC} {d : Nat} {M : MI} {L : ML} {σ : AS} (hM : hasM M σ) (hσ : okS σ) : CfI g (d + 2) yX10_chow cX10_chow 2 .int [rf g 54, .int (-1)] M L (ansChow σ (-1)) (M) (L) := by
  have hn := hM.1
  have h4 := hσ.2.1
  have h16 := pow4 h4
  have hp1 := Nat.two_pow_pos σ.1
  have hc := okp hσ
  refine cfI_of (own := RX10) (l := [some (rf g 54), some (.int (-1))]) 0 rfl rfl rfl (Nat.le_of_ble_eq_true rfl) ?_
  refine tm_iload_1 1 rfl dX10_chow_0 ?_
  refine tm_iconst (-1) rfl 2 rfl dX10_chow_1 ?_
  refine tm_icmp_eq_t 13 (rfl) rfl dX10_chow_2 ?_
  refine tm_aload_0 14 rfl dX10_chow_13 ?_
  refine tm_aload_0 15 rfl dX10_chow_14 ?_
  refine tm_getr fl_X10_11 rfl rfl 18 rfl dX10_chow_15 ?_
  refine tm_iconst (1) rfl 19 rfl dX10_chow_18 ?_
  refine tm_ald rfl (ix := 1) ⟨by decide, by decide, by decide⟩ 20 rfl dX10_chow_19 ?_
  rw [hM.2.1]
  refine tm_iload_1 21 rfl dX10_chow_20 ?_
  refine tm_callV_I (ci := 9) (c_X10_chowOf_all hn h4 (c := σ.2.1) (by omega)) mv_X10_chowOf ml_X10_133 rfl rfl rfl rfl rfl (Nat.le_of_ble_eq_true rfl) 24 rfl dX10_chow_21 ?_
  refine tm_goto 28 rfl dX10_chow_24 ?_
  exact tm_iret cho_1.symm rfl rfl dX10_chow_28

set_option maxRecDepth 100000 in
set_option maxHeartbeats 4000000 in
theorem c_X10_chow_v {g : GC} {d : Nat} {M : MI} {L : ML} {σ : AS} (hM : hasM M σ) (hσ : okS σ) {x : Int32} (hx : ¬ x = -1) : CfI g (d + 2) yX10_chow cX10_chow 2 .int [rf g 54, .int x] M L (ansChow σ x) (M) (L) := by
  have hn := hM.1
  have h4 := hσ.2.1
  have h16 := pow4 h4
  have hp1 := Nat.two_pow_pos σ.1
  have hc := okp hσ
  refine cfI_of (own := RX10) (l := [some (rf g 54), some (.int x)]) 0 rfl rfl rfl (Nat.le_of_ble_eq_true rfl) ?_
  refine tm_iload_1 1 rfl dX10_chow_0 ?_
  refine tm_iconst (-1) rfl 2 rfl dX10_chow_1 ?_
  refine tm_icmp_eq_f 5 (hx) rfl rfl dX10_chow_2 ?_
  refine tm_aload_0 6 rfl dX10_chow_5 ?_
  refine tm_iload_1 7 rfl dX10_chow_6 ?_
  refine tm_callV_I (ci := 9) (c_X10_isVoter hn h4 (by have := hσ.1; omega)) mv_X10_isVoter ml_X10_75 rfl rfl rfl rfl rfl (Nat.le_of_ble_eq_true rfl) 10 rfl dX10_chow_7 ?_
  refine tm_if_eqB 27 13 rfl rfl dX10_chow_10 (fun h10 => ?_) (fun h10 => ?_)
  · refine tm_iconst (-1) rfl 28 rfl dX10_chow_27 ?_
    exact tm_iret (by first | exact (cho_2 hx h10).symm | exact (cho_3 (by omega) h10).symm) rfl rfl dX10_chow_28
  · obtain ⟨k, hk, rfl⟩ := inN_of h10
    refine tm_aload_0 14 rfl dX10_chow_13 ?_
    refine tm_aload_0 15 rfl dX10_chow_14 ?_
    refine tm_getr fl_X10_11 rfl rfl 18 rfl dX10_chow_15 ?_
    refine tm_iconst (1) rfl 19 rfl dX10_chow_18 ?_
    refine tm_ald rfl (ix := 1) ⟨by decide, by decide, by decide⟩ 20 rfl dX10_chow_19 ?_
    rw [hM.2.1]
    refine tm_iload_1 21 rfl dX10_chow_20 ?_
    refine tm_callV_I (ci := 9) (c_X10_chowOf_v hn h4 (c := σ.2.1) (by omega) hk) mv_X10_chowOf ml_X10_133 rfl rfl rfl rfl rfl (Nat.le_of_ble_eq_true rfl) 24 rfl dX10_chow_21 ?_
    refine tm_goto 28 rfl dX10_chow_24 ?_
    exact tm_iret (by first | exact (cho_2 hx h10).symm | exact (cho_3 (by omega) h10).symm) rfl rfl dX10_chow_28

theorem c_X10_chow {g : GC} {d : Nat} {M : MI} {L : ML} {σ : AS} (hM : hasM M σ) (hσ : okS σ) {x : Int32} : CfI g (d + 2) yX10_chow cX10_chow 2 .int [rf g 54, .int x] M L (ansChow σ x) (M) (L) := by
  by_cases h : x = -1
  · subst h; exact c_X10_chow_all hM hσ
  · exact c_X10_chow_v hM hσ h
def ansOf (σ : AS) (lot x : Int32) : Int32 := if inN lot (2 ^ σ.1) = false then -1 else if x = 0 then bI (σ.2.1.testBit (iN lot)) else if x = 1 then bI (σ.2.2.1.testBit (iN lot)) else if x = 2 then bI (decide (σ.2.2.2.2 ≤ wth σ.2.2.2.1 (iN lot) σ.1)) else if x = 3 then wth σ.2.2.2.1 (iN lot) σ.1 + 100 else -1
theorem of_x {σ : AS} {lot x : Int32} (h : inN lot (2 ^ σ.1) = false) : ansOf σ lot x = -1 := by unfold ansOf; rw [if_pos h]
theorem of_y {σ : AS} {k : Nat} {x : Int32} (hk : k < 2 ^ 31) (h : inN (nI k) (2 ^ σ.1) = true) : ansOf σ (nI k) x = if x = 0 then bI (σ.2.1.testBit k) else if x = 1 then bI (σ.2.2.1.testBit k) else if x = 2 then bI (decide (σ.2.2.2.2 ≤ wth σ.2.2.2.1 k σ.1)) else if x = 3 then wth σ.2.2.2.1 k σ.1 + 100 else -1 := by
  unfold ansOf
  rw [if_neg (by rw [h]; decide), iN_nI hk]
theorem of_z {σ : AS} {k : Nat} {x : Int32} (hk : k < 2 ^ 31) (h : inN (nI k) (2 ^ σ.1) = true) (hx : ¬ inN x 4 = true) : ansOf σ (nI k) x = -1 := by
  rw [of_y hk h, if_neg (fun q => hx (by rw [q]; rfl)), if_neg (fun q => hx (by rw [q]; rfl)), if_neg (fun q => hx (by rw [q]; rfl)), if_neg (fun q => hx (by rw [q]; rfl))]
theorem wg_t {n k : Nat} {w : Nat → Int32} {q : Int32} (hk : k < 2 ^ n) : (wgN n w q).testBit k = decide (q ≤ wth w k n) := by unfold wgN; rw [bits_test, decide_eq_true hk, Bool.true_and]
theorem wgN_lt (n : Nat) (w : Nat → Int32) (q : Int32) : wgN n w q < 2 ^ 2 ^ n := bits_lt _ _
set_option maxRecDepth 100000 in
set_option maxHeartbeats 4000000 in
theorem c_X9_of {g : GC} {d : Nat} {M : MI} {L : ML} {σ : AS} (hC : hasC M σ) (hσ : okS σ) {x y : Int32} : CfI g (d + 4) yX9_of cX9_of 3 .int [rf g 0, .int x, .int y] M L (ansOf σ x y) (M) (L) := by
  have hn := hC.1
  have h4 := hσ.2.1
  have h16 := pow4 h4
  have hp1 := Nat.two_pow_pos σ.1
  have hc := okp hσ
  have h65 := p65 h4
  have hk2 := okp2 hσ
  have hwg := wgN_lt σ.1 σ.2.2.2.1 σ.2.2.2.2
  refine cfI_of (own := RX9) (l := [some (rf g 0), some (.int x), some (.int y)]) 0 rfl rfl rfl (Nat.le_of_ble_eq_true rfl) ?_
  refine tm_aload_0 1 rfl dX9_of_0 ?_
  refine tm_getr fl_X9_12 rfl rfl 4 rfl dX9_of_1 ?_
  refine tm_iload_1 5 rfl dX9_of_4 ?_
  refine tm_callV_I (ci := 3) (c_X4_hasLot hC hσ) mv_X4_hasLot ml_X9_75 rfl rfl rfl rfl rfl (Nat.le_of_ble_eq_true rfl) 8 rfl dX9_of_5 ?_
  refine tm_if_neB 13 11 rfl rfl dX9_of_8 (fun h8 => ?_) (fun h8 => ?_)
  · obtain ⟨k, hk, rfl⟩ := inN_of h8
    refine tm_iload_2 14 rfl dX9_of_13 ?_
    by_cases hs14 : inN y 4 = true
    · obtain ⟨q14, hq14, rfl⟩ := inN_of hs14
      rcases (show q14 = 0 ∨ q14 = 1 ∨ q14 = 2 ∨ q14 = 3 by omega) with rfl | rfl | rfl | rfl
      · refine tm_swIn (off := 30) 44 (by decide) (by decide) (by decide +kernel) rfl dX9_of_14 ?_
        refine tm_aload_0 45 rfl dX9_of_44 ?_
        refine tm_getr fl_X9_12 rfl rfl 48 rfl dX9_of_45 ?_
        refine tm_geti fl_X9_82 rfl rfl 51 rfl dX9_of_48 ?_
        rw [hC.2.1]
        refine tm_iload_1 52 rfl dX9_of_51 ?_
        refine tm_callS_I (c_X0_says (c := σ.2.1) (k := k) (by omega) (by omega)) ms_X0_says ml_X9_85 rfl rfl (Nat.le_of_ble_eq_true rfl) 55 rfl dX9_of_52 ?_
        exact tm_iret (by rw [of_y (by omega) h8, if_pos (by decide)]) rfl rfl dX9_of_55
      · refine tm_swIn (off := 42) 56 (by decide) (by decide) (by decide +kernel) rfl dX9_of_14 ?_
        refine tm_aload_0 57 rfl dX9_of_56 ?_
        refine tm_getr fl_X9_12 rfl rfl 60 rfl dX9_of_57 ?_
        refine tm_geti fl_X9_141 rfl rfl 63 rfl dX9_of_60 ?_
        rw [hC.2.2.1]
        refine tm_iload_1 64 rfl dX9_of_63 ?_
        refine tm_callS_I (c_X0_says (c := σ.2.2.1) (k := k) (by omega) (by omega)) ms_X0_says ml_X9_85 rfl rfl (Nat.le_of_ble_eq_true rfl) 67 rfl dX9_of_64 ?_
        exact tm_iret (by rw [of_y (by omega) h8, if_neg (by decide), if_pos (by decide)]) rfl rfl dX9_of_67
      · refine tm_swIn (off := 54) 68 (by decide) (by decide) (by decide +kernel) rfl dX9_of_14 ?_
        refine tm_aload_0 69 rfl dX9_of_68 ?_
        refine tm_getr fl_X9_12 rfl rfl 72 rfl dX9_of_69 ?_
        refine tm_callV_I (ci := 3) (c_X4_weighed hC hσ) mv_X4_weighed ml_X9_108 rfl rfl rfl rfl rfl (Nat.le_of_ble_eq_true rfl) 75 rfl dX9_of_72 ?_
        refine tm_iload_1 76 rfl dX9_of_75 ?_
        refine tm_callS_I (c_X0_says (c := wgN σ.1 σ.2.2.2.1 σ.2.2.2.2) (k := k) (by omega) (by omega)) ms_X0_says ml_X9_85 rfl rfl (Nat.le_of_ble_eq_true rfl) 79 rfl dX9_of_76 ?_
        exact tm_iret (by rw [wg_t hk, of_y (by omega) h8, if_neg (by decide), if_neg (by decide), if_pos (by decide)]) rfl rfl dX9_of_79
      · refine tm_swIn (off := 66) 80 (by decide) (by decide) (by decide +kernel) rfl dX9_of_14 ?_
        refine tm_aload_0 81 rfl dX9_of_80 ?_
        refine tm_getr fl_X9_12 rfl rfl 84 rfl dX9_of_81 ?_
        refine tm_iload_1 85 rfl dX9_of_84 ?_
        refine tm_callV_I (ci := 3) (c_X4_worthOf hC hσ hk) mv_X4_worthOf ml_X9_191 rfl rfl rfl rfl rfl (Nat.le_of_ble_eq_true rfl) 88 rfl dX9_of_85 ?_
        refine tm_bipush (100) (by decide) 90 rfl dX9_of_88 ?_
        refine tm_iadd 91 rfl dX9_of_90 ?_
        exact tm_iret (by rw [of_y (by omega) h8, if_neg (by decide), if_neg (by decide), if_neg (by decide), if_pos (by decide)]) rfl rfl dX9_of_91
    · refine tm_swOut 92 (sw_out hs14 rfl) rfl dX9_of_14 ?_
      refine tm_iconst (-1) rfl 93 rfl dX9_of_92 ?_
      exact tm_iret (of_z (by omega) h8 hs14).symm rfl rfl dX9_of_93
  · refine tm_iconst (-1) rfl 12 rfl dX9_of_11 ?_
    exact tm_iret (of_x h8).symm rfl rfl dX9_of_12

set_option maxRecDepth 100000 in
set_option maxHeartbeats 4000000 in
theorem c_X10_of {g : GC} {d : Nat} {M : MI} {L : ML} {σ : AS} (hM : hasM M σ) (hσ : okS σ) {x y : Int32} : CfI g (d + 2) yX10_of cX10_of 3 .int [rf g 54, .int x, .int y] M L (ansOf σ x y) (M) (L) := by
  have hn := hM.1
  have h4 := hσ.2.1
  have h16 := pow4 h4
  have hp1 := Nat.two_pow_pos σ.1
  have hc := okp hσ
  have hk2 := okp2 hσ
  have hwc : ∀ k, wth (fun v => M 55 (4 + v)) k σ.1 = wth σ.2.2.2.1 k σ.1 := fun k => wth_congr (fun v hv => hM.2.2.2.2 v (by omega))
  refine cfI_of (own := RX10) (l := [some (rf g 54), some (.int x), some (.int y)]) 0 rfl rfl rfl (Nat.le_of_ble_eq_true rfl) ?_
  refine tm_aload_0 1 rfl dX10_of_0 ?_
  refine tm_iload_1 2 rfl dX10_of_1 ?_
  refine tm_callV_I (ci := 9) (c_X10_isLot hn h4) mv_X10_isLot ml_X10_68 rfl rfl rfl rfl rfl (Nat.le_of_ble_eq_true rfl) 5 rfl dX10_of_2 ?_
  refine tm_if_neB 10 8 rfl rfl dX10_of_5 (fun h5 => ?_) (fun h5 => ?_)
  · obtain ⟨k, hk, rfl⟩ := inN_of h5
    refine tm_iload_2 11 rfl dX10_of_10 ?_
    by_cases hs11 : inN y 4 = true
    · obtain ⟨q11, hq11, rfl⟩ := inN_of hs11
      rcases (show q11 = 0 ∨ q11 = 1 ∨ q11 = 2 ∨ q11 = 3 by omega) with rfl | rfl | rfl | rfl
      · refine tm_swIn (off := 29) 40 (by decide) (by decide) (by decide +kernel) rfl dX10_of_11 ?_
        refine tm_aload_0 41 rfl dX10_of_40 ?_
        refine tm_getr fl_X10_11 rfl rfl 44 rfl dX10_of_41 ?_
        refine tm_iconst (1) rfl 45 rfl dX10_of_44 ?_
        refine tm_ald rfl (ix := 1) ⟨by decide, by decide, by decide⟩ 46 rfl dX10_of_45 ?_
        rw [hM.2.1]
        refine tm_iload_1 47 rfl dX10_of_46 ?_
        refine tm_callS_I (c_X10_is (c := σ.2.1) (k := k) (by omega) (by omega)) ms_X10_is ml_X10_97 rfl rfl (Nat.le_of_ble_eq_true rfl) 50 rfl dX10_of_47 ?_
        refine tm_callS_I (c_X10_bit) ms_X10_bit ml_X10_90 rfl rfl (Nat.le_of_ble_eq_true rfl) 53 rfl dX10_of_50 ?_
        exact tm_iret (by rw [of_y (by omega) h5, if_pos (by decide)]) rfl rfl dX10_of_53
      · refine tm_swIn (off := 43) 54 (by decide) (by decide) (by decide +kernel) rfl dX10_of_11 ?_
        refine tm_aload_0 55 rfl dX10_of_54 ?_
        refine tm_getr fl_X10_11 rfl rfl 58 rfl dX10_of_55 ?_
        refine tm_iconst (2) rfl 59 rfl dX10_of_58 ?_
        refine tm_ald rfl (ix := 2) ⟨by decide, by decide, by decide⟩ 60 rfl dX10_of_59 ?_
        rw [hM.2.2.1]
        refine tm_iload_1 61 rfl dX10_of_60 ?_
        refine tm_callS_I (c_X10_is (c := σ.2.2.1) (k := k) (by omega) (by omega)) ms_X10_is ml_X10_97 rfl rfl (Nat.le_of_ble_eq_true rfl) 64 rfl dX10_of_61 ?_
        refine tm_callS_I (c_X10_bit) ms_X10_bit ml_X10_90 rfl rfl (Nat.le_of_ble_eq_true rfl) 67 rfl dX10_of_64 ?_
        exact tm_iret (by rw [of_y (by omega) h5, if_neg (by decide), if_pos (by decide)]) rfl rfl dX10_of_67
      · refine tm_swIn (off := 57) 68 (by decide) (by decide) (by decide +kernel) rfl dX10_of_11 ?_
        refine tm_aload_0 69 rfl dX10_of_68 ?_
        refine tm_iload_1 70 rfl dX10_of_69 ?_
        refine tm_callV_I (ci := 9) (c_X10_worth hn h4 (k := k) (by omega)) mv_X10_worth ml_X10_86 rfl rfl rfl rfl rfl (Nat.le_of_ble_eq_true rfl) 73 rfl dX10_of_70 ?_
        rw [hwc]
        refine tm_aload_0 74 rfl dX10_of_73 ?_
        refine tm_getr fl_X10_11 rfl rfl 77 rfl dX10_of_74 ?_
        refine tm_iconst (3) rfl 78 rfl dX10_of_77 ?_
        refine tm_ald rfl (ix := 3) ⟨by decide, by decide, by decide⟩ 79 rfl dX10_of_78 ?_
        refine tm_join2 87 (bI (decide (σ.2.2.2.2 ≤ wth σ.2.2.2.1 k σ.1))) ?_ (fun hJ87 => ?_)
        · refine tm_callS_I (c_X10_bit) ms_X10_bit ml_X10_90 rfl rfl (Nat.le_of_ble_eq_true rfl) 90 rfl dX10_of_87 ?_
          exact tm_iret (by rw [of_y (by omega) h5, if_neg (by decide), if_neg (by decide), if_pos (by decide)]) rfl rfl dX10_of_90
        · rw [hM.2.2.2.1]
          refine tm_icmp_lt 86 82 rfl rfl dX10_of_79 (fun h79 => ?_) (fun h79 => ?_)
          · refine tm_iconst (0) rfl 87 rfl dX10_of_86 ?_
            exact tm_top (by first | (rw [decide_eq_true (fa_of_nlt h79)]; rfl) | (rw [decide_eq_false (fa_of_lt h79).2.1]; rfl)) hJ87
          · refine tm_iconst (1) rfl 83 rfl dX10_of_82 ?_
            refine tm_goto 87 rfl dX10_of_83 ?_
            exact tm_top (by first | (rw [decide_eq_true (fa_of_nlt h79)]; rfl) | (rw [decide_eq_false (fa_of_lt h79).2.1]; rfl)) hJ87
      · refine tm_swIn (off := 80) 91 (by decide) (by decide) (by decide +kernel) rfl dX10_of_11 ?_
        refine tm_aload_0 92 rfl dX10_of_91 ?_
        refine tm_iload_1 93 rfl dX10_of_92 ?_
        refine tm_callV_I (ci := 9) (c_X10_worth hn h4 (k := k) (by omega)) mv_X10_worth ml_X10_86 rfl rfl rfl rfl rfl (Nat.le_of_ble_eq_true rfl) 96 rfl dX10_of_93 ?_
        rw [hwc]
        refine tm_bipush (100) (by decide) 98 rfl dX10_of_96 ?_
        refine tm_iadd 99 rfl dX10_of_98 ?_
        exact tm_iret (by rw [of_y (by omega) h5, if_neg (by decide), if_neg (by decide), if_neg (by decide), if_pos (by decide)]) rfl rfl dX10_of_99
    · refine tm_swOut 100 (sw_out hs11 rfl) rfl dX10_of_11 ?_
      refine tm_iconst (-1) rfl 101 rfl dX10_of_100 ?_
      exact tm_iret (of_z (by omega) h5 hs11).symm rfl rfl dX10_of_101
  · refine tm_iconst (-1) rfl 9 rfl dX10_of_8 ?_
    exact tm_iret (of_x h5).symm rfl rfl dX10_of_9


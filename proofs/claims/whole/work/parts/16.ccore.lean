/-! the class's core: cells 1 (Setup), 2 (weights) -/
def hasC (M : MI) (σ : AS) : Prop := M 1 0 = nI σ.1 ∧ M 1 1 = nI σ.2.1 ∧ M 1 2 = nI σ.2.2.1 ∧ M 1 4 = σ.2.2.2.2 ∧ ∀ v, v < 4 → M 2 v = σ.2.2.2.1 v
def sRow (σ : AS) (f : Nat → Int32) : Nat → Int32 := fun k => if k = 0 then nI σ.1 else if k = 1 then nI σ.2.1 else if k = 2 then nI σ.2.2.1 else if k = 4 then σ.2.2.2.2 else f k
def wRow (w : Nat → Int32) (f : Nat → Int32) : Nat → Int32 := fun k => if k < 4 then w k else f k
def putC (M : MI) (σ : AS) : MI := sr (sr M 1 (sRow σ (M 1))) 2 (wRow σ.2.2.2.1 (M 2))
theorem putC_1 (M : MI) (σ : AS) : putC M σ 1 = sRow σ (M 1) := by unfold putC; rw [sr_ne (by decide), sr_eq]
theorem putC_2 (M : MI) (σ : AS) : putC M σ 2 = wRow σ.2.2.2.1 (M 2) := by unfold putC; rw [sr_eq]
theorem putC_ne {M : MI} {σ : AS} {i : Nat} (h : i ≠ 1) (h2 : i ≠ 2) : putC M σ i = M i := by unfold putC; rw [sr_ne h2, sr_ne h]
theorem hasC_put (M : MI) (σ : AS) : hasC (putC M σ) σ := by
  refine ⟨?_, ?_, ?_, ?_, fun v hv => ?_⟩
  · rw [putC_1]; rfl
  · rw [putC_1]; rfl
  · rw [putC_1]; rfl
  · rw [putC_1]; rfl
  · rw [putC_2]; exact if_pos hv
theorem putC_eq {X M : MI} {σ : AS} (h : hasC X σ) (hx : ∀ i, i ≠ 1 → i ≠ 2 → X i = M i) (h1 : ∀ k, k ≠ 0 → k ≠ 1 → k ≠ 2 → k ≠ 4 → X 1 k = M 1 k) (h2 : ∀ k, 4 ≤ k → X 2 k = M 2 k) : X = putC M σ := by
  funext i
  by_cases e1 : i = 1
  · subst e1
    rw [putC_1]
    funext k
    unfold sRow
    by_cases k0 : k = 0
    · subst k0; exact h.1
    · rw [if_neg k0]
      by_cases k1 : k = 1
      · subst k1; exact h.2.1
      · rw [if_neg k1]
        by_cases k2 : k = 2
        · subst k2; exact h.2.2.1
        · rw [if_neg k2]
          by_cases k4 : k = 4
          · subst k4; exact h.2.2.2.1
          · rw [if_neg k4]; exact h1 k k0 k1 k2 k4
  · by_cases e2 : i = 2
    · subst e2
      rw [putC_2]
      funext k
      unfold wRow
      by_cases q : k < 4
      · rw [if_pos q]; exact h.2.2.2.2 k q
      · rw [if_neg q]; exact h2 k (by omega)
    · rw [putC_ne e1 e2]; exact hx i e1 e2
theorem putC_self {M : MI} {σ : AS} (h : hasC M σ) : putC M σ = M := (putC_eq h (fun _ _ _ => rfl) (fun _ _ _ _ _ => rfl) (fun _ _ => rfl)).symm
theorem s1_ne {M : MI} {i k : Nat} {x : Int32} {j : Nat} (h : j ≠ i) : s1 M i k x j = M j := sr_ne h
theorem s1_eq (M : MI) (i k : Nat) (x : Int32) : s1 M i k x i k = x := by rw [s1_at]; simp
theorem s1_nk {M : MI} {i k : Nat} {x : Int32} {q : Nat} (h : q ≠ k) : s1 M i k x i q = M i q := by rw [s1_at]; simp [h]
theorem putC_c {M : MI} {σ : AS} (h : hasC M σ) (c : Nat) : s1 M 1 1 (nI c) = putC M (σ.1, c, σ.2.2) := by
  refine putC_eq ⟨?_, ?_, ?_, ?_, fun v hv => ?_⟩ (fun i h1 _ => s1_ne h1) (fun k _ h1 _ _ => s1_nk h1) (fun k _ => by rw [s1_ne (by decide)])
  · rw [s1_nk (by decide)]; exact h.1
  · exact s1_eq _ _ _ _
  · rw [s1_nk (by decide)]; exact h.2.2.1
  · rw [s1_nk (by decide)]; exact h.2.2.2.1
  · rw [s1_ne (by decide)]; exact h.2.2.2.2 v hv
theorem putC_k {M : MI} {σ : AS} (h : hasC M σ) (c : Nat) : s1 M 1 2 (nI c) = putC M (σ.1, σ.2.1, c, σ.2.2.2) := by
  refine putC_eq ⟨?_, ?_, ?_, ?_, fun v hv => ?_⟩ (fun i h1 _ => s1_ne h1) (fun k _ _ h1 _ => s1_nk h1) (fun k _ => by rw [s1_ne (by decide)])
  · rw [s1_nk (by decide)]; exact h.1
  · rw [s1_nk (by decide)]; exact h.2.1
  · exact s1_eq _ _ _ _
  · rw [s1_nk (by decide)]; exact h.2.2.2.1
  · rw [s1_ne (by decide)]; exact h.2.2.2.2 v hv
theorem putC_q {M : MI} {σ : AS} (h : hasC M σ) (x : Int32) : s1 M 1 4 x = putC M (σ.1, σ.2.1, σ.2.2.1, σ.2.2.2.1, x) := by
  refine putC_eq ⟨?_, ?_, ?_, ?_, fun v hv => ?_⟩ (fun i h1 _ => s1_ne h1) (fun k _ _ _ h1 => s1_nk h1) (fun k _ => by rw [s1_ne (by decide)])
  · rw [s1_nk (by decide)]; exact h.1
  · rw [s1_nk (by decide)]; exact h.2.1
  · rw [s1_nk (by decide)]; exact h.2.2.1
  · exact s1_eq _ _ _ _
  · rw [s1_ne (by decide)]; exact h.2.2.2.2 v hv
theorem putC_w {M : MI} {σ : AS} (h : hasC M σ) {v : Nat} (hv : v < 4) (x : Int32) : s1 M 2 v x = putC M (σ.1, σ.2.1, σ.2.2.1, upd σ.2.2.2.1 v x, σ.2.2.2.2) := by
  refine putC_eq ⟨?_, ?_, ?_, ?_, fun u hu => ?_⟩ (fun i _ h1 => s1_ne h1) (fun k _ _ _ _ => by rw [s1_ne (by decide)]) (fun k hk => s1_nk (by omega))
  · rw [s1_ne (by decide)]; exact h.1
  · rw [s1_ne (by decide)]; exact h.2.1
  · rw [s1_ne (by decide)]; exact h.2.2.1
  · rw [s1_ne (by decide)]; exact h.2.2.2.1
  · by_cases e : u = v
    · subst e
      rw [s1_eq]; exact (upd_eq _ _ _).symm
    · rw [s1_nk e, h.2.2.2.2 u hu]; exact (upd_ne e).symm
theorem wth_hi {w : Nat → Int32} {k n : Nat} (hk : k < 2 ^ n) : ∀ m, wth w k (n + m) = wth w k n
  | 0 => rfl
  | m + 1 => by
    show wth w k (n + m) + bI (k.testBit (n + m)) * w (n + m) = _
    rw [wth_hi hk m, tb_hi hk (by omega), show bI false = (0 : Int32) from rfl, Int32.zero_mul, Int32.add_zero]
theorem wth_cn {M : MI} {σ : AS} (h : hasC M σ) (h4 : σ.1 ≤ 4) {k : Nat} (hk : k < 2 ^ σ.1) : wth (M 2) k 4 = wth σ.2.2.2.1 k σ.1 := by
  have e := wth_hi (w := M 2) hk (4 - σ.1)
  rw [show σ.1 + (4 - σ.1) = 4 by omega] at e
  rw [e]
  exact wth_congr (fun v hv => h.2.2.2.2 v (by omega))
theorem inN_f {x : Int32} {N : Nat} (h : ¬ x < 0) (h2 : ¬ nI N ≤ x) (hN : N < 2 ^ 31) : (1 : Int32) = bI (inN x N) := by
  rw [fa_lt] at h
  rw [fa_le, nI_toInt hN] at h2
  rw [show inN x N = true from decide_eq_true ⟨by have : (0 : Int32).toInt = 0 := rfl; omega, by omega⟩]; rfl
theorem inN_g {x : Int32} {N : Nat} (h2 : nI N ≤ x) (hN : N < 2 ^ 31) : (0 : Int32) = bI (inN x N) := by
  rw [fa_le, nI_toInt hN] at h2
  rw [show inN x N = false from decide_eq_false (fun q => by omega)]; rfl
theorem inN_h {x : Int32} {N : Nat} (h : x < 0) : (0 : Int32) = bI (inN x N) := by
  rw [fa_lt] at h
  rw [show inN x N = false from decide_eq_false (fun q => by have : (0 : Int32).toInt = 0 := rfl; omega)]; rfl
set_option maxRecDepth 100000 in
set_option maxHeartbeats 4000000 in
theorem c_X3_worth {g : GC} {d : Nat} {M : MI} {L : ML} {j k : Nat} (hj : shp j = some (.inr (0, 4, []))) (hk : k < 2 ^ 31) : CfI g (d) yX3_worth cX3_worth 4 .int [rf g j, .int (nI k)] M L (wth (M j) k 4) (M) (L) := by
  refine cfI_of (own := RX3) (l := [some (rf g j), some (.int (nI k)), none, none]) 2 rfl rfl rfl (Nat.le_of_ble_eq_true rfl) ?_
  refine tm_iconst (0) rfl 1 rfl dX3_worth_0 ?_
  refine tm_istore_2 (by decide) rfl 2 rfl dX3_worth_1 ?_
  refine tm_iconst (0) rfl 3 rfl dX3_worth_2 ?_
  refine tm_istore_3 (by decide) rfl 4 rfl dX3_worth_3 ?_
  refine tm_loop (N := 4) (fun v => Tm g (d) RX3 cX3_worth 4 (some .int) (QI g (wth (M j) k 4) (M) (L)) 4 [some (rf g j), some (.int (nI k)), some (.int (wth (M j) k v)), some (.int (nI v))] [] (M) (L)) (fun v hv ih => ?_) ?_
  · refine tm_iload_3 5 rfl dX3_worth_4 ?_
    refine tm_aload_0 6 rfl dX3_worth_5 ?_
    refine tm_alenI hj 7 rfl dX3_worth_6 ?_
    refine tm_icmp_ge_f 10 (nI_ge hv (by decide)) rfl rfl dX3_worth_7 ?_
    refine tm_iload_1 11 rfl dX3_worth_10 ?_
    refine tm_iload_3 12 rfl dX3_worth_11 ?_
    refine tm_ishr 13 rfl dX3_worth_12 ?_
    refine tm_iconst (1) rfl 14 rfl dX3_worth_13 ?_
    refine tm_iand 15 rfl dX3_worth_14 ?_
    rw [bit_1 hk (by omega)]
    refine tm_iconst (1) rfl 16 rfl dX3_worth_15 ?_
    refine tm_icmp_ne 25 19 rfl rfl dX3_worth_16 (fun h16 => ?_) (fun h16 => ?_)
    · refine tm_iinc_3 (nI (v + 1)) (iinc1 v) (by decide) rfl 28 rfl dX3_worth_25 ?_
      refine tm_goto 4 rfl dX3_worth_28 ?_
      first
        | (have e : wth (M j) k (v + 1) = wth (M j) k v + M j v := by
             show _ + bI (k.testBit v) * _ = _
             rw [h16, Int32.one_mul]
           rw [e] at ih; exact ih)
        | (have e : wth (M j) k (v + 1) = wth (M j) k v := by
             show _ + bI (k.testBit v) * _ = _
             rw [(bI_n1 _).mp h16, show bI false = (0 : Int32) from rfl, Int32.zero_mul, Int32.add_zero]
           rw [e] at ih; exact ih)
    · refine tm_iload_2 20 rfl dX3_worth_19 ?_
      refine tm_aload_0 21 rfl dX3_worth_20 ?_
      refine tm_iload_3 22 rfl dX3_worth_21 ?_
      refine tm_ald hj (ix := v) (ix_nI hv (by decide)) 23 rfl dX3_worth_22 ?_
      refine tm_iadd 24 rfl dX3_worth_23 ?_
      refine tm_istore_2 (by decide) rfl 25 rfl dX3_worth_24 ?_
      refine tm_iinc_3 (nI (v + 1)) (iinc1 v) (by decide) rfl 28 rfl dX3_worth_25 ?_
      refine tm_goto 4 rfl dX3_worth_28 ?_
      first
        | (have e : wth (M j) k (v + 1) = wth (M j) k v + M j v := by
             show _ + bI (k.testBit v) * _ = _
             rw [h16, Int32.one_mul]
           rw [e] at ih; exact ih)
        | (have e : wth (M j) k (v + 1) = wth (M j) k v := by
             show _ + bI (k.testBit v) * _ = _
             rw [(bI_n1 _).mp h16, show bI false = (0 : Int32) from rfl, Int32.zero_mul, Int32.add_zero]
           rw [e] at ih; exact ih)
  · refine tm_iload_3 5 rfl dX3_worth_4 ?_
    refine tm_aload_0 6 rfl dX3_worth_5 ?_
    refine tm_alenI hj 7 rfl dX3_worth_6 ?_
    refine tm_icmp_ge_t 31 (nI_le (Nat.le_refl 4) (by decide)) rfl dX3_worth_7 ?_
    refine tm_iload_2 32 rfl dX3_worth_31 ?_
    exact tm_iret rfl rfl rfl dX3_worth_32

set_option maxRecDepth 100000 in
set_option maxHeartbeats 4000000 in
theorem c_X4_lots {g : GC} {d : Nat} {M : MI} {L : ML} {σ : AS} (hC : hasC M σ) (hσ : okS σ) : CfI g (d) yX4_lots cX4_lots 1 .int [rf g 1] M L (nI (2 ^ σ.1)) (M) (L) := by
  have hn := hC.1
  have h4 := hσ.2.1
  have h16 := pow4 h4
  have hp1 := Nat.two_pow_pos σ.1
  have hc := okp hσ
  refine cfI_of (own := RX4) (l := [some (rf g 1)]) 0 rfl rfl rfl (Nat.le_of_ble_eq_true rfl) ?_
  refine tm_iconst (1) rfl 1 rfl dX4_lots_0 ?_
  refine tm_aload_0 2 rfl dX4_lots_1 ?_
  refine tm_geti fl_X4_9 rfl rfl 5 rfl dX4_lots_2 ?_
  rw [hn]
  refine tm_ishl 6 rfl dX4_lots_5 ?_
  exact tm_iret (sh_1 _ (by omega)) rfl rfl dX4_lots_6

set_option maxRecDepth 100000 in
set_option maxHeartbeats 4000000 in
theorem c_X4_hasLot {g : GC} {d : Nat} {M : MI} {L : ML} {σ : AS} (hC : hasC M σ) (hσ : okS σ) {x : Int32} : CfI g (d + 1) yX4_hasLot cX4_hasLot 2 .boolean [rf g 1, .int x] M L (bI (inN x (2 ^ σ.1))) (M) (L) := by
  have hn := hC.1
  have h4 := hσ.2.1
  have h16 := pow4 h4
  have hp1 := Nat.two_pow_pos σ.1
  have hc := okp hσ
  refine cfI_of (own := RX4) (l := [some (rf g 1), some (.int x)]) 0 rfl rfl rfl (Nat.le_of_ble_eq_true rfl) ?_
  refine tm_iload_1 1 rfl dX4_hasLot_0 ?_
  refine tm_if_lt 16 4 rfl rfl dX4_hasLot_1 (fun h1 => ?_) (fun h1 => ?_)
  · refine tm_iconst (0) rfl 17 rfl dX4_hasLot_16 ?_
    exact tm_zret (by decide) (by first | exact inN_h h1 | exact inN_g h9 (by omega) | exact inN_f h1 h9 (by omega)) rfl rfl dX4_hasLot_17
  · refine tm_iload_1 5 rfl dX4_hasLot_4 ?_
    refine tm_aload_0 6 rfl dX4_hasLot_5 ?_
    refine tm_callV_I (ci := 3) (c_X4_lots hC hσ) mv_X4_lots ml_X4_63 rfl rfl rfl rfl rfl (Nat.le_of_ble_eq_true rfl) 9 rfl dX4_hasLot_6 ?_
    refine tm_icmp_ge 16 12 rfl rfl dX4_hasLot_9 (fun h9 => ?_) (fun h9 => ?_)
    · refine tm_iconst (0) rfl 17 rfl dX4_hasLot_16 ?_
      exact tm_zret (by decide) (by first | exact inN_h h1 | exact inN_g h9 (by omega) | exact inN_f h1 h9 (by omega)) rfl rfl dX4_hasLot_17
    · refine tm_iconst (1) rfl 13 rfl dX4_hasLot_12 ?_
      refine tm_goto 17 rfl dX4_hasLot_13 ?_
      exact tm_zret (by decide) (by first | exact inN_h h1 | exact inN_g h9 (by omega) | exact inN_f h1 h9 (by omega)) rfl rfl dX4_hasLot_17

set_option maxRecDepth 100000 in
set_option maxHeartbeats 4000000 in
theorem c_X4_hasVoter {g : GC} {d : Nat} {M : MI} {L : ML} {σ : AS} (hC : hasC M σ) (hσ : okS σ) {x : Int32} : CfI g (d) yX4_hasVoter cX4_hasVoter 2 .boolean [rf g 1, .int x] M L (bI (inN x σ.1)) (M) (L) := by
  have hn := hC.1
  have h4 := hσ.2.1
  have h16 := pow4 h4
  have hp1 := Nat.two_pow_pos σ.1
  have hc := okp hσ
  refine cfI_of (own := RX4) (l := [some (rf g 1), some (.int x)]) 0 rfl rfl rfl (Nat.le_of_ble_eq_true rfl) ?_
  refine tm_iload_1 1 rfl dX4_hasVoter_0 ?_
  refine tm_if_lt 16 4 rfl rfl dX4_hasVoter_1 (fun h1 => ?_) (fun h1 => ?_)
  · refine tm_iconst (0) rfl 17 rfl dX4_hasVoter_16 ?_
    exact tm_zret (by decide) (by first | exact inN_h h1 | exact inN_g h9 (by omega) | exact inN_f h1 h9 (by omega)) rfl rfl dX4_hasVoter_17
  · refine tm_iload_1 5 rfl dX4_hasVoter_4 ?_
    refine tm_aload_0 6 rfl dX4_hasVoter_5 ?_
    refine tm_geti fl_X4_9 rfl rfl 9 rfl dX4_hasVoter_6 ?_
    rw [hn]
    refine tm_icmp_ge 16 12 rfl rfl dX4_hasVoter_9 (fun h9 => ?_) (fun h9 => ?_)
    · refine tm_iconst (0) rfl 17 rfl dX4_hasVoter_16 ?_
      exact tm_zret (by decide) (by first | exact inN_h h1 | exact inN_g h9 (by omega) | exact inN_f h1 h9 (by omega)) rfl rfl dX4_hasVoter_17
    · refine tm_iconst (1) rfl 13 rfl dX4_hasVoter_12 ?_
      refine tm_goto 17 rfl dX4_hasVoter_13 ?_
      exact tm_zret (by decide) (by first | exact inN_h h1 | exact inN_g h9 (by omega) | exact inN_f h1 h9 (by omega)) rfl rfl dX4_hasVoter_17

set_option maxRecDepth 100000 in
set_option maxHeartbeats 4000000 in
theorem c_X4_worthOf {g : GC} {d : Nat} {M : MI} {L : ML} {σ : AS} (hC : hasC M σ) (hσ : okS σ) {k : Nat} (hk : k < 2 ^ σ.1) : CfI g (d + 1) yX4_worthOf cX4_worthOf 2 .int [rf g 1, .int (nI k)] M L (wth σ.2.2.2.1 k σ.1) (M) (L) := by
  have hn := hC.1
  have h4 := hσ.2.1
  have h16 := pow4 h4
  have hp1 := Nat.two_pow_pos σ.1
  have hc := okp hσ
  refine cfI_of (own := RX4) (l := [some (rf g 1), some (.int (nI k))]) 0 rfl rfl rfl (Nat.le_of_ble_eq_true rfl) ?_
  refine tm_aload_0 1 rfl dX4_worthOf_0 ?_
  refine tm_getr fl_X4_21 rfl rfl 4 rfl dX4_worthOf_1 ?_
  refine tm_iload_1 5 rfl dX4_worthOf_4 ?_
  refine tm_callS_I (c_X3_worth (j := 2) rfl (by omega)) ms_X3_worth ml_X4_67 rfl rfl (Nat.le_of_ble_eq_true rfl) 8 rfl dX4_worthOf_5 ?_
  exact tm_iret (wth_cn hC h4 hk) rfl rfl dX4_worthOf_8

set_option maxRecDepth 100000 in
set_option maxHeartbeats 4000000 in
theorem c_X4_weighed {g : GC} {d : Nat} {M : MI} {L : ML} {σ : AS} (hC : hasC M σ) (hσ : okS σ) : CfI g (d + 2) yX4_weighed cX4_weighed 3 .int [rf g 1] M L (nI (wgN σ.1 σ.2.2.2.1 σ.2.2.2.2)) (M) (L) := by
  have hn := hC.1
  have h4 := hσ.2.1
  have h16 := pow4 h4
  have hp1 := Nat.two_pow_pos σ.1
  have hc := okp hσ
  refine cfI_of (own := RX4) (l := [some (rf g 1), none, none]) 2 rfl rfl rfl (Nat.le_of_ble_eq_true rfl) ?_
  refine tm_iconst (0) rfl 1 rfl dX4_weighed_0 ?_
  refine tm_istore_1 (by decide) rfl 2 rfl dX4_weighed_1 ?_
  refine tm_iconst (0) rfl 3 rfl dX4_weighed_2 ?_
  refine tm_istore_2 (by decide) rfl 4 rfl dX4_weighed_3 ?_
  refine tm_loop (N := 2 ^ σ.1) (fun k => Tm g (d + 2) RX4 cX4_weighed 3 (some .int) (QI g (nI (wgN σ.1 σ.2.2.2.1 σ.2.2.2.2)) (M) (L)) 4 [some (rf g 1), some (.int (nI (bits k (fun k => decide (σ.2.2.2.2 ≤ wth σ.2.2.2.1 k σ.1))))), some (.int (nI k))] [] (M) (L)) (fun k hk ih => ?_) ?_
  · refine tm_iload_2 5 rfl dX4_weighed_4 ?_
    refine tm_aload_0 6 rfl dX4_weighed_5 ?_
    refine tm_callV_I (ci := 3) (c_X4_lots hC hσ) mv_X4_lots ml_X4_63 rfl rfl rfl rfl rfl (Nat.le_of_ble_eq_true rfl) 9 rfl dX4_weighed_6 ?_
    refine tm_icmp_ge_f 12 (nI_ge hk (by omega)) rfl rfl dX4_weighed_9 ?_
    refine tm_aload_0 13 rfl dX4_weighed_12 ?_
    refine tm_iload_2 14 rfl dX4_weighed_13 ?_
    refine tm_callV_I (ci := 3) (c_X4_worthOf hC hσ hk) mv_X4_worthOf ml_X4_73 rfl rfl rfl rfl rfl (Nat.le_of_ble_eq_true rfl) 17 rfl dX4_weighed_14 ?_
    refine tm_aload_0 18 rfl dX4_weighed_17 ?_
    refine tm_geti fl_X4_25 rfl rfl 21 rfl dX4_weighed_18 ?_
    rw [hC.2.2.2.1]
    refine tm_icmp_lt 30 24 rfl rfl dX4_weighed_21 (fun h21 => ?_) (fun h21 => ?_)
    · refine tm_iinc_2 (nI (k + 1)) (iinc1 k) (by decide) rfl 33 rfl dX4_weighed_30 ?_
      refine tm_goto 4 rfl dX4_weighed_33 ?_
      first
        | (have e : bits (k + 1) (fun k => decide (σ.2.2.2.2 ≤ wth σ.2.2.2.1 k σ.1)) = bits k (fun k => decide (σ.2.2.2.2 ≤ wth σ.2.2.2.1 k σ.1)) := by
             show _ ||| (if decide _ = true then _ else _) = _
             rw [if_neg (by rw [decide_eq_false (fa_of_lt h21).2.1]; decide), Nat.or_zero]
           rw [e] at ih; exact ih)
        | (have e : bits (k + 1) (fun k => decide (σ.2.2.2.2 ≤ wth σ.2.2.2.1 k σ.1)) = bits k (fun k => decide (σ.2.2.2.2 ≤ wth σ.2.2.2.1 k σ.1)) ||| 2 ^ k := by
             show _ ||| (if decide _ = true then _ else _) = _
             rw [if_pos (decide_eq_true (fa_of_nlt h21))]
           rw [e] at ih; exact ih)
    · refine tm_iload_1 25 rfl dX4_weighed_24 ?_
      refine tm_iconst (1) rfl 26 rfl dX4_weighed_25 ?_
      refine tm_iload_2 27 rfl dX4_weighed_26 ?_
      refine tm_ishl 28 rfl dX4_weighed_27 ?_
      refine tm_ior 29 rfl dX4_weighed_28 ?_
      rw [sh_1 k (by omega), fa_or]
      refine tm_istore_1 (by decide) rfl 30 rfl dX4_weighed_29 ?_
      refine tm_iinc_2 (nI (k + 1)) (iinc1 k) (by decide) rfl 33 rfl dX4_weighed_30 ?_
      refine tm_goto 4 rfl dX4_weighed_33 ?_
      first
        | (have e : bits (k + 1) (fun k => decide (σ.2.2.2.2 ≤ wth σ.2.2.2.1 k σ.1)) = bits k (fun k => decide (σ.2.2.2.2 ≤ wth σ.2.2.2.1 k σ.1)) := by
             show _ ||| (if decide _ = true then _ else _) = _
             rw [if_neg (by rw [decide_eq_false (fa_of_lt h21).2.1]; decide), Nat.or_zero]
           rw [e] at ih; exact ih)
        | (have e : bits (k + 1) (fun k => decide (σ.2.2.2.2 ≤ wth σ.2.2.2.1 k σ.1)) = bits k (fun k => decide (σ.2.2.2.2 ≤ wth σ.2.2.2.1 k σ.1)) ||| 2 ^ k := by
             show _ ||| (if decide _ = true then _ else _) = _
             rw [if_pos (decide_eq_true (fa_of_nlt h21))]
           rw [e] at ih; exact ih)
  · refine tm_iload_2 5 rfl dX4_weighed_4 ?_
    refine tm_aload_0 6 rfl dX4_weighed_5 ?_
    refine tm_callV_I (ci := 3) (c_X4_lots hC hσ) mv_X4_lots ml_X4_63 rfl rfl rfl rfl rfl (Nat.le_of_ble_eq_true rfl) 9 rfl dX4_weighed_6 ?_
    refine tm_icmp_ge_t 36 (nI_le (Nat.le_refl _) (by omega)) rfl dX4_weighed_9 ?_
    refine tm_iload_1 37 rfl dX4_weighed_36 ?_
    exact tm_iret rfl rfl rfl dX4_weighed_37

def zC (M : MI) (x : Int32) (k : Nat) : MI := sr (s1 (s1 (s1 (s1 M 1 0 x) 1 1 0) 1 2 0) 1 4 1) 2 (fun j => if j < k then 0 else M 2 j)
theorem zC_0 (M : MI) (x : Int32) : s1 (s1 (s1 (s1 M 1 0 x) 1 1 0) 1 2 0) 1 4 1 = zC M x 0 := by
  unfold zC
  have e : (fun j => if j < 0 then (0 : Int32) else M 2 j) = s1 (s1 (s1 (s1 M 1 0 x) 1 1 0) 1 2 0) 1 4 1 2 := by
    rw [s1_ne (by decide), s1_ne (by decide), s1_ne (by decide), s1_ne (by decide)]
    funext j
    simp
  rw [e, sr_self]
theorem zC_s (M : MI) (x : Int32) (k : Nat) : s1 (zC M x k) 2 k 0 = zC M x (k + 1) := by
  unfold s1
  have e : zC M x k 2 = (fun j => if j < k then 0 else M 2 j) := sr_eq _ _ _
  rw [e]
  unfold zC
  funext i
  by_cases h : i = 2
  · subst h
    rw [sr_eq, sr_eq]
    funext j
    unfold upd
    by_cases q : j = k
    · subst q; simp
    · by_cases q2 : j < k
      · simp [q, q2, show j < k + 1 by omega]
      · simp [q, q2, show ¬ j < k + 1 by omega]
  · rw [sr_ne h, sr_ne h, sr_ne h]
theorem zC_4 (M : MI) (n : Nat) : zC M (nI n) 4 = putC M (n, 0, 0, fun _ => 0, 1) := by
  have e2 : zC M (nI n) 4 2 = (fun j => if j < 4 then 0 else M 2 j) := sr_eq _ _ _
  have e1 : zC M (nI n) 4 1 = s1 (s1 (s1 (s1 M 1 0 (nI n)) 1 1 0) 1 2 0) 1 4 1 1 := sr_ne (by decide)
  refine putC_eq ⟨?_, ?_, ?_, ?_, fun v hv => ?_⟩ (fun i h1 h2 => ?_) (fun k a0 a1 a2 a4 => ?_) (fun k hk => ?_)
  · rw [e1, s1_nk (by decide), s1_nk (by decide), s1_nk (by decide), s1_eq]
  · rw [e1, s1_nk (by decide), s1_nk (by decide), s1_eq]; rfl
  · rw [e1, s1_nk (by decide), s1_eq]; rfl
  · rw [e1, s1_eq]
  · rw [e2]; exact if_pos hv
  · unfold zC
    rw [sr_ne h2, s1_ne h1, s1_ne h1, s1_ne h1, s1_ne h1]
  · rw [e1, s1_nk a4, s1_nk a2, s1_nk a1, s1_nk a0]
  · rw [e2]; exact if_neg (by omega)
set_option maxRecDepth 100000 in
set_option maxHeartbeats 4000000 in
theorem c_X4_startAnew {g : GC} {d : Nat} {M : MI} {L : ML} {k : Nat} : CfV g (d) yX4_startAnew cX4_startAnew 3 [rf g 1, .int (nI k)] M L (putC M (k, 0, 0, fun _ => 0, 1)) (L) := by
  refine cfV_of (own := RX4) (l := [some (rf g 1), some (.int (nI k)), none]) 1 rfl rfl rfl (Nat.le_of_ble_eq_true rfl) ?_
  refine tm_aload_0 1 rfl dX4_startAnew_0 ?_
  refine tm_iload_1 2 rfl dX4_startAnew_1 ?_
  refine tm_puti fl_X4_9 fw_3_0 rfl rfl rfl rfl 5 rfl dX4_startAnew_2 ?_
  refine tm_aload_0 6 rfl dX4_startAnew_5 ?_
  refine tm_iconst (0) rfl 7 rfl dX4_startAnew_6 ?_
  refine tm_puti fl_X4_15 fw_3_1 rfl rfl rfl rfl 10 rfl dX4_startAnew_7 ?_
  refine tm_aload_0 11 rfl dX4_startAnew_10 ?_
  refine tm_iconst (0) rfl 12 rfl dX4_startAnew_11 ?_
  refine tm_puti fl_X4_18 fw_3_2 rfl rfl rfl rfl 15 rfl dX4_startAnew_12 ?_
  refine tm_aload_0 16 rfl dX4_startAnew_15 ?_
  refine tm_iconst (1) rfl 17 rfl dX4_startAnew_16 ?_
  refine tm_puti fl_X4_25 fw_3_4 rfl rfl rfl rfl 20 rfl dX4_startAnew_17 ?_
  rw [zC_0]
  refine tm_iconst (0) rfl 21 rfl dX4_startAnew_20 ?_
  refine tm_istore_2 (by decide) rfl 22 rfl dX4_startAnew_21 ?_
  refine tm_loop (N := 4) (fun v => Tm g (d) RX4 cX4_startAnew 3 none (QV g (putC M (k, 0, 0, fun _ => 0, 1)) (L)) 22 [some (rf g 1), some (.int (nI k)), some (.int (nI v))] [] (zC M (nI k) v) (L)) (fun v hv ih => ?_) ?_
  · refine tm_iload_2 23 rfl dX4_startAnew_22 ?_
    refine tm_iconst (4) rfl 24 rfl dX4_startAnew_23 ?_
    refine tm_icmp_ge_f 27 (nI_ge hv (by decide)) rfl rfl dX4_startAnew_24 ?_
    refine tm_aload_0 28 rfl dX4_startAnew_27 ?_
    refine tm_getr fl_X4_21 rfl rfl 31 rfl dX4_startAnew_28 ?_
    refine tm_iload_2 32 rfl dX4_startAnew_31 ?_
    refine tm_iconst (0) rfl 33 rfl dX4_startAnew_32 ?_
    refine tm_ast rfl (ix := v) (ix_nI hv (by decide)) 34 rfl dX4_startAnew_33 ?_
    refine tm_iinc_2 (nI (v + 1)) (iinc1 v) (by decide) rfl 37 rfl dX4_startAnew_34 ?_
    refine tm_goto 22 rfl dX4_startAnew_37 ?_
    rw [zC_s]
    exact ih
  · refine tm_iload_2 23 rfl dX4_startAnew_22 ?_
    refine tm_iconst (4) rfl 24 rfl dX4_startAnew_23 ?_
    refine tm_icmp_ge_t 40 (nI_le (Nat.le_refl 4) (by decide)) rfl dX4_startAnew_24 ?_
    exact tm_vret (zC_4 M k) rfl dX4_startAnew_40

theorem vot_c1 {σ : AS} {x : Int32} (h : x < 2) : opVot σ x = (-2, σ) := by
  rw [fa_lt] at h
  unfold opVot
  rw [if_neg (by intro q; have := of_decide_eq_true q; have e : (2 : Int32).toInt = 2 := rfl; omega)]
theorem vot_c2 {σ : AS} {x : Int32} (h : ¬ x ≤ 4) : opVot σ x = (-2, σ) := by
  rw [fa_le] at h
  unfold opVot
  rw [if_neg (by intro q; have := of_decide_eq_true q; have e : (4 : Int32).toInt = 4 := rfl; omega)]
theorem vot_c3 {σ : AS} {x : Int32} (h : ¬ x < 2) (h2 : x ≤ 4) : ∃ k, 2 ≤ k ∧ k ≤ 4 ∧ x = nI k ∧ opVot σ x = (nI σ.1, (k, 0, 0, fun _ => 0, 1)) := by
  apply vot_2
  rw [btw_ab 2 4 rfl rfl]
  rw [fa_lt] at h
  rw [fa_le] at h2
  have e : (2 : Int32).toInt = 2 := rfl
  have e2 : (4 : Int32).toInt = 4 := rfl
  exact decide_eq_true ⟨by omega, by omega⟩
set_option maxRecDepth 100000 in
set_option maxHeartbeats 4000000 in
theorem c_X9_voters {g : GC} {d : Nat} {M : MI} {L : ML} {σ : AS} (hC : hasC M σ) (hσ : okS σ) {x : Int32} : CfI g (d + 1) yX9_voters cX9_voters 3 .int [rf g 0, .int x] M L ((opVot σ x).1) (putC M (opVot σ x).2) (L) := by
  have hn := hC.1
  have h4 := hσ.2.1
  have h16 := pow4 h4
  have hp1 := Nat.two_pow_pos σ.1
  have hc := okp hσ
  refine cfI_of (own := RX9) (l := [some (rf g 0), some (.int x), none]) 1 rfl rfl rfl (Nat.le_of_ble_eq_true rfl) ?_
  refine tm_iload_1 1 rfl dX9_voters_0 ?_
  refine tm_iconst (2) rfl 2 rfl dX9_voters_1 ?_
  refine tm_icmp_lt 10 5 rfl rfl dX9_voters_2 (fun h2 => ?_) (fun h2 => ?_)
  · refine tm_bipush (-2) (by decide) 12 rfl dX9_voters_10 ?_
    exact tm_iret (by first | rw [vot_c1 h2] | rw [vot_c2 h7]) (by first | (rw [vot_c1 h2]; exact (putC_self hC).symm) | (rw [vot_c2 h7]; exact (putC_self hC).symm)) rfl dX9_voters_12
  · refine tm_iload_1 6 rfl dX9_voters_5 ?_
    refine tm_iconst (4) rfl 7 rfl dX9_voters_6 ?_
    refine tm_icmp_le 13 10 rfl rfl dX9_voters_7 (fun h7 => ?_) (fun h7 => ?_)
    · obtain ⟨k, hk1, hk2, rfl, hop⟩ := vot_c3 (σ := σ) h2 h7
      refine tm_aload_0 14 rfl dX9_voters_13 ?_
      refine tm_getr fl_X9_12 rfl rfl 17 rfl dX9_voters_14 ?_
      refine tm_geti fl_X9_67 rfl rfl 20 rfl dX9_voters_17 ?_
      rw [hn]
      refine tm_istore_2 (by decide) rfl 21 rfl dX9_voters_20 ?_
      refine tm_aload_0 22 rfl dX9_voters_21 ?_
      refine tm_getr fl_X9_12 rfl rfl 25 rfl dX9_voters_22 ?_
      refine tm_iload_1 26 rfl dX9_voters_25 ?_
      refine tm_callV_V (ci := 3) (c_X4_startAnew) mv_X4_startAnew ml_X9_71 rfl rfl rfl rfl rfl (Nat.le_of_ble_eq_true rfl) 29 rfl dX9_voters_26 ?_
      refine tm_iload_2 30 rfl dX9_voters_29 ?_
      exact tm_iret (by rw [hop]) (by rw [hop]) rfl dX9_voters_30
    · refine tm_bipush (-2) (by decide) 12 rfl dX9_voters_10 ?_
      exact tm_iret (by first | rw [vot_c1 h2] | rw [vot_c2 h7]) (by first | (rw [vot_c1 h2]; exact (putC_self hC).symm) | (rw [vot_c2 h7]; exact (putC_self hC).symm)) rfl dX9_voters_12

theorem yn_1 {x : Int32} (h : ¬ x = 0) (h2 : ¬ x = 1) : inN x 2 = false := by
  cases q : inN x 2
  · rfl
  · obtain ⟨b, rfl⟩ := in2_of q
    cases b
    · exact absurd rfl h
    · exact absurd rfl h2
set_option maxRecDepth 100000 in
set_option maxHeartbeats 4000000 in
theorem c_X9_isYesOrNo {g : GC} {d : Nat} {M : MI} {L : ML} {x : Int32} : CfI g (d) yX9_isYesOrNo cX9_isYesOrNo 1 .boolean [.int x] M L (bI (inN x 2)) (M) (L) := by
  refine cfI_of (own := RX9) (l := [some (.int x)]) 0 rfl rfl rfl (Nat.le_of_ble_eq_true rfl) ?_
  refine tm_iload_0 1 rfl dX9_isYesOrNo_0 ?_
  refine tm_if_eq 9 4 rfl rfl dX9_isYesOrNo_1 (fun h1 => ?_) (fun h1 => ?_)
  · refine tm_iconst (1) rfl 10 rfl dX9_isYesOrNo_9 ?_
    refine tm_goto 14 rfl dX9_isYesOrNo_10 ?_
    exact tm_zret (by decide) (by first | (rw [h1]; rfl) | (rw [h6]; rfl) | (rw [show inN x 2 = false from yn_1 h1 h6]; rfl)) rfl rfl dX9_isYesOrNo_14
  · refine tm_iload_0 5 rfl dX9_isYesOrNo_4 ?_
    refine tm_iconst (1) rfl 6 rfl dX9_isYesOrNo_5 ?_
    refine tm_icmp_ne 13 9 rfl rfl dX9_isYesOrNo_6 (fun h6 => ?_) (fun h6 => ?_)
    · refine tm_iconst (0) rfl 14 rfl dX9_isYesOrNo_13 ?_
      exact tm_zret (by decide) (by first | (rw [h1]; rfl) | (rw [h6]; rfl) | (rw [show inN x 2 = false from yn_1 h1 h6]; rfl)) rfl rfl dX9_isYesOrNo_14
    · refine tm_iconst (1) rfl 10 rfl dX9_isYesOrNo_9 ?_
      refine tm_goto 14 rfl dX9_isYesOrNo_10 ?_
      exact tm_zret (by decide) (by first | (rw [h1]; rfl) | (rw [h6]; rfl) | (rw [show inN x 2 = false from yn_1 h1 h6]; rfl)) rfl rfl dX9_isYesOrNo_14

set_option maxRecDepth 100000 in
set_option maxHeartbeats 4000000 in
theorem c_X9_oneIf {g : GC} {d : Nat} {M : MI} {L : ML} {b : Bool} : CfI g (d) yX9_oneIf cX9_oneIf 1 .int [.int (bI b)] M L (bI b) (M) (L) := by
  refine cfI_of (own := RX9) (l := [some (.int (bI b))]) 0 rfl rfl rfl (Nat.le_of_ble_eq_true rfl) ?_
  refine tm_iload_0 1 rfl dX9_oneIf_0 ?_
  refine tm_if_eq 8 4 rfl rfl dX9_oneIf_1 (fun h1 => ?_) (fun h1 => ?_)
  · refine tm_iconst (0) rfl 9 rfl dX9_oneIf_8 ?_
    exact tm_iret (by first | exact h1.symm | (rw [(bI_n0 b).mp h1]; rfl)) rfl rfl dX9_oneIf_9
  · refine tm_iconst (1) rfl 5 rfl dX9_oneIf_4 ?_
    refine tm_goto 9 rfl dX9_oneIf_5 ?_
    exact tm_iret (by first | exact h1.symm | (rw [(bI_n0 b).mp h1]; rfl)) rfl rfl dX9_oneIf_9

theorem say_c1 {n c k : Nat} {b : Bool} (hc : c < 2 ^ 2 ^ n) (hk : k < 2 ^ n) (h : bI (c.testBit k) = bI b) : setb n c k b = c := by
  refine bits_ext (bits_lt _ _) hc (fun j hj => ?_)
  unfold setb
  rw [bits_test, decide_eq_true hj, Bool.true_and]
  by_cases e : j = k
  · subst e
    rw [if_pos rfl]
    revert h
    cases b <;> cases c.testBit j <;> simp [bI]
  · rw [if_neg e]
theorem say_c2 {n c k : Nat} {b : Bool} (hc : c < 2 ^ 2 ^ n) (hk : k < 2 ^ n) (h : ¬ bI (c.testBit k) = bI b) : c ^^^ 2 ^ k = setb n c k b := by
  have h2k : 2 ^ k < 2 ^ 2 ^ n := Nat.pow_lt_pow_right (by omega) hk
  refine bits_ext (Nat.xor_lt_two_pow hc h2k) (bits_lt _ _) (fun j hj => ?_)
  unfold setb
  rw [bits_test, decide_eq_true hj, Bool.true_and, Nat.testBit_xor]
  by_cases e : j = k
  · subst e
    rw [if_pos rfl, Nat.testBit_two_pow_self]
    revert h
    cases b <;> cases c.testBit j <;> simp [bI]
  · rw [if_neg e, Nat.testBit_two_pow_of_ne (fun q => e q.symm), Bool.xor_false]
set_option maxRecDepth 100000 in
set_option maxHeartbeats 4000000 in
theorem c_X9_say {g : GC} {d : Nat} {M : MI} {L : ML} {σ : AS} (hC : hasC M σ) (hσ : okS σ) {x y : Int32} : CfI g (d + 2) yX9_say cX9_say 4 .int [rf g 0, .int x, .int y] M L ((opSay σ x y).1) (putC M (opSay σ x y).2) (L) := by
  have hn := hC.1
  have h4 := hσ.2.1
  have h16 := pow4 h4
  have hp1 := Nat.two_pow_pos σ.1
  have hc := okp hσ
  refine cfI_of (own := RX9) (l := [some (rf g 0), some (.int x), some (.int y), none]) 1 rfl rfl rfl (Nat.le_of_ble_eq_true rfl) ?_
  refine tm_aload_0 1 rfl dX9_say_0 ?_
  refine tm_getr fl_X9_12 rfl rfl 4 rfl dX9_say_1 ?_
  refine tm_iload_1 5 rfl dX9_say_4 ?_
  refine tm_callV_I (ci := 3) (c_X4_hasLot hC hσ) mv_X4_hasLot ml_X9_75 rfl rfl rfl rfl rfl (Nat.le_of_ble_eq_true rfl) 8 rfl dX9_say_5 ?_
  refine tm_if_neB 13 11 rfl rfl dX9_say_8 (fun h8 => ?_) (fun h8 => ?_)
  · refine tm_iload_2 14 rfl dX9_say_13 ?_
    refine tm_callS_I (c_X9_isYesOrNo) ms_X9_isYesOrNo ml_X9_79 rfl rfl (Nat.le_of_ble_eq_true rfl) 17 rfl dX9_say_14 ?_
    refine tm_if_neB 23 20 rfl rfl dX9_say_17 (fun h17 => ?_) (fun h17 => ?_)
    · obtain ⟨k, hk, rfl⟩ := inN_of h8
      obtain ⟨b, rfl⟩ := in2_of h17
      refine tm_aload_0 24 rfl dX9_say_23 ?_
      refine tm_getr fl_X9_12 rfl rfl 27 rfl dX9_say_24 ?_
      refine tm_geti fl_X9_82 rfl rfl 30 rfl dX9_say_27 ?_
      rw [hC.2.1]
      refine tm_iload_1 31 rfl dX9_say_30 ?_
      refine tm_callS_I (c_X0_says (c := σ.2.1) (k := k) (by omega) (by omega)) ms_X0_says ml_X9_85 rfl rfl (Nat.le_of_ble_eq_true rfl) 34 rfl dX9_say_31 ?_
      refine tm_istore_3 (by decide) rfl 35 rfl dX9_say_34 ?_
      refine tm_iload_3 36 rfl dX9_say_35 ?_
      refine tm_iload_2 37 rfl dX9_say_36 ?_
      refine tm_icmp_eq 58 40 rfl rfl dX9_say_37 (fun h37 => ?_) (fun h37 => ?_)
      · refine tm_iload_3 59 rfl dX9_say_58 ?_
        exact tm_iret (by rw [say_3 (by omega) h8 h17]) (by first | (rw [say_3 (by omega) h8 h17, say_c1 hσ.2.2.1 hk h37]; exact (putC_self hC).symm) | (rw [say_3 (by omega) h8 h17, say_c2 hσ.2.2.1 hk h37]; exact putC_c hC _)) rfl dX9_say_59
      · refine tm_aload_0 41 rfl dX9_say_40 ?_
        refine tm_getr fl_X9_12 rfl rfl 44 rfl dX9_say_41 ?_
        refine tm_aload_0 45 rfl dX9_say_44 ?_
        refine tm_getr fl_X9_12 rfl rfl 48 rfl dX9_say_45 ?_
        refine tm_geti fl_X9_82 rfl rfl 51 rfl dX9_say_48 ?_
        rw [hC.2.1]
        refine tm_iload_1 52 rfl dX9_say_51 ?_
        refine tm_callS_I (c_X0_flipped (c := σ.2.1) (k := k) (by omega)) ms_X0_flipped ml_X9_91 rfl rfl (Nat.le_of_ble_eq_true rfl) 55 rfl dX9_say_52 ?_
        refine tm_puti fl_X9_82 fw_3_1 rfl rfl rfl rfl 58 rfl dX9_say_55 ?_
        refine tm_iload_3 59 rfl dX9_say_58 ?_
        exact tm_iret (by rw [say_3 (by omega) h8 h17]) (by first | (rw [say_3 (by omega) h8 h17, say_c1 hσ.2.2.1 hk h37]; exact (putC_self hC).symm) | (rw [say_3 (by omega) h8 h17, say_c2 hσ.2.2.1 hk h37]; exact putC_c hC _)) rfl dX9_say_59
    · refine tm_bipush (-2) (by decide) 22 rfl dX9_say_20 ?_
      exact tm_iret (by rw [say_2 h8 h17]) (by rw [say_2 h8 h17]; exact (putC_self hC).symm) rfl dX9_say_22
  · refine tm_iconst (-1) rfl 12 rfl dX9_say_11 ?_
    exact tm_iret (by rw [say_1 h8]) (by rw [say_1 h8]; exact (putC_self hC).symm) rfl dX9_say_12

theorem cod_c1 {N : Nat} {x : Int32} (h : ¬ x < 0) (h2 : x ≤ nI (N - 1)) (h1 : 1 ≤ N) (hN : N < 2 ^ 31) : inN x N = true := by
  rw [fa_lt] at h
  rw [fa_le, nI_toInt (by omega)] at h2
  exact decide_eq_true ⟨by have : (0 : Int32).toInt = 0 := rfl; omega, by omega⟩
theorem cod_c2 {N : Nat} {x : Int32} (h2 : ¬ x ≤ nI (N - 1)) (h1 : 1 ≤ N) (hN : N < 2 ^ 31) : inN x N = false := by
  rw [fa_le, nI_toInt (by omega)] at h2
  exact decide_eq_false (fun q => by omega)
theorem cod_c3 {N : Nat} {x : Int32} (h : x < 0) : inN x N = false := by
  rw [fa_lt] at h
  exact decide_eq_false (fun q => by have : (0 : Int32).toInt = 0 := rfl; omega)
theorem rng_1 {x a b : Int32} (h : x < a) : decide (a.toInt ≤ x.toInt ∧ x.toInt ≤ b.toInt) = false := decide_eq_false (fun q => by rw [fa_lt] at h; omega)
theorem rng_2 {x a b : Int32} (h : ¬ x ≤ b) : decide (a.toInt ≤ x.toInt ∧ x.toInt ≤ b.toInt) = false := decide_eq_false (fun q => by rw [fa_le] at h; omega)
theorem rng_3 {x a b : Int32} (h : ¬ x < a) (h2 : x ≤ b) : decide (a.toInt ≤ x.toInt ∧ x.toInt ≤ b.toInt) = true := decide_eq_true (by rw [fa_lt] at h; rw [fa_le] at h2; omega)
set_option maxRecDepth 100000 in
set_option maxHeartbeats 4000000 in
theorem c_X9_code {g : GC} {d : Nat} {M : MI} {L : ML} {σ : AS} (hC : hasC M σ) (hσ : okS σ) {x : Int32} : CfI g (d + 1) yX9_code cX9_code 3 .int [rf g 0, .int x] M L ((opCode σ x).1) (putC M (opCode σ x).2) (L) := by
  have hn := hC.1
  have h4 := hσ.2.1
  have h16 := pow4 h4
  have hp1 := Nat.two_pow_pos σ.1
  have hc := okp hσ
  have h65 := p65 h4
  have hp2 := Nat.two_pow_pos (2 ^ σ.1)
  refine cfI_of (own := RX9) (l := [some (rf g 0), some (.int x), none]) 1 rfl rfl rfl (Nat.le_of_ble_eq_true rfl) ?_
  refine tm_iload_1 1 rfl dX9_code_0 ?_
  refine tm_if_lt 18 4 rfl rfl dX9_code_1 (fun h1 => ?_) (fun h1 => ?_)
  · refine tm_bipush (-2) (by decide) 20 rfl dX9_code_18 ?_
    exact tm_iret (by first | rw [cod_1 (cod_c3 h1)] | rw [cod_1 (cod_c2 h15 (by omega) (by omega))]) (by first | (rw [cod_1 (cod_c3 h1)]; exact (putC_self hC).symm) | (rw [cod_1 (cod_c2 h15 (by omega) (by omega))]; exact (putC_self hC).symm)) rfl dX9_code_20
  · refine tm_iload_1 5 rfl dX9_code_4 ?_
    refine tm_aload_0 6 rfl dX9_code_5 ?_
    refine tm_getr fl_X9_12 rfl rfl 9 rfl dX9_code_6 ?_
    refine tm_geti fl_X9_67 rfl rfl 12 rfl dX9_code_9 ?_
    rw [hn]
    refine tm_callS_I (c_X0_allYes h4) ms_X0_allYes ml_X9_94 rfl rfl (Nat.le_of_ble_eq_true rfl) 15 rfl dX9_code_12 ?_
    refine tm_icmp_le 21 18 rfl rfl dX9_code_15 (fun h15 => ?_) (fun h15 => ?_)
    · have hin := cod_c1 h1 h15 (by omega) (by omega)
      obtain ⟨k, hk, rfl⟩ := inN_of hin
      refine tm_aload_0 22 rfl dX9_code_21 ?_
      refine tm_getr fl_X9_12 rfl rfl 25 rfl dX9_code_22 ?_
      refine tm_geti fl_X9_82 rfl rfl 28 rfl dX9_code_25 ?_
      rw [hC.2.1]
      refine tm_istore_2 (by decide) rfl 29 rfl dX9_code_28 ?_
      refine tm_aload_0 30 rfl dX9_code_29 ?_
      refine tm_getr fl_X9_12 rfl rfl 33 rfl dX9_code_30 ?_
      refine tm_iload_1 34 rfl dX9_code_33 ?_
      refine tm_puti fl_X9_82 fw_3_1 rfl rfl rfl rfl 37 rfl dX9_code_34 ?_
      refine tm_iload_2 38 rfl dX9_code_37 ?_
      exact tm_iret (by rw [cod_2 (by omega) hin]) (by rw [cod_2 (by omega) hin]; exact putC_c hC _) rfl dX9_code_38
    · refine tm_bipush (-2) (by decide) 20 rfl dX9_code_18 ?_
      exact tm_iret (by first | rw [cod_1 (cod_c3 h1)] | rw [cod_1 (cod_c2 h15 (by omega) (by omega))]) (by first | (rw [cod_1 (cod_c3 h1)]; exact (putC_self hC).symm) | (rw [cod_1 (cod_c2 h15 (by omega) (by omega))]; exact (putC_self hC).symm)) rfl dX9_code_20

set_option maxRecDepth 100000 in
set_option maxHeartbeats 4000000 in
theorem c_X9_weight {g : GC} {d : Nat} {M : MI} {L : ML} {σ : AS} (hC : hasC M σ) (hσ : okS σ) {v x : Int32} : CfI g (d + 1) yX9_weight cX9_weight 4 .int [rf g 0, .int v, .int x] M L ((opWgt σ v x).1) (putC M (opWgt σ v x).2) (L) := by
  have hn := hC.1
  have h4 := hσ.2.1
  have h16a := pow4 h4
  have hp1 := Nat.two_pow_pos σ.1
  have hc := okp hσ
  refine cfI_of (own := RX9) (l := [some (rf g 0), some (.int v), some (.int x), none]) 1 rfl rfl rfl (Nat.le_of_ble_eq_true rfl) ?_
  refine tm_aload_0 1 rfl dX9_weight_0 ?_
  refine tm_getr fl_X9_12 rfl rfl 4 rfl dX9_weight_1 ?_
  refine tm_iload_1 5 rfl dX9_weight_4 ?_
  refine tm_callV_I (ci := 3) (c_X4_hasVoter hC hσ) mv_X4_hasVoter ml_X9_98 rfl rfl rfl rfl rfl (Nat.le_of_ble_eq_true rfl) 8 rfl dX9_weight_5 ?_
  refine tm_if_neB 13 11 rfl rfl dX9_weight_8 (fun h8 => ?_) (fun h8 => ?_)
  · refine tm_iload_2 14 rfl dX9_weight_13 ?_
    refine tm_bipush (-9) (by decide) 16 rfl dX9_weight_14 ?_
    refine tm_icmp_lt 25 19 rfl rfl dX9_weight_16 (fun h16 => ?_) (fun h16 => ?_)
    · refine tm_bipush (-2) (by decide) 27 rfl dX9_weight_25 ?_
      exact tm_iret (by first | rw [wgt_2 h8 (rng_1 (b := 9) h16)] | rw [wgt_2 h8 (rng_2 (a := -9) h22)]) (by first | (rw [wgt_2 h8 (rng_1 (b := 9) h16)]; exact (putC_self hC).symm) | (rw [wgt_2 h8 (rng_2 (a := -9) h22)]; exact (putC_self hC).symm)) rfl dX9_weight_27
    · refine tm_iload_2 20 rfl dX9_weight_19 ?_
      refine tm_bipush (9) (by decide) 22 rfl dX9_weight_20 ?_
      refine tm_icmp_le 28 25 rfl rfl dX9_weight_22 (fun h22 => ?_) (fun h22 => ?_)
      · obtain ⟨k, hk, rfl⟩ := inN_of h8
        have hr := rng_3 h16 h22
        refine tm_aload_0 29 rfl dX9_weight_28 ?_
        refine tm_getr fl_X9_12 rfl rfl 32 rfl dX9_weight_29 ?_
        refine tm_getr fl_X9_101 rfl rfl 35 rfl dX9_weight_32 ?_
        refine tm_iload_1 36 rfl dX9_weight_35 ?_
        refine tm_ald rfl (ix := k) (ix_nI (by omega) (by decide)) 37 rfl dX9_weight_36 ?_
        rw [hC.2.2.2.2 k (by omega)]
        refine tm_istore_3 (by decide) rfl 38 rfl dX9_weight_37 ?_
        refine tm_aload_0 39 rfl dX9_weight_38 ?_
        refine tm_getr fl_X9_12 rfl rfl 42 rfl dX9_weight_39 ?_
        refine tm_getr fl_X9_101 rfl rfl 45 rfl dX9_weight_42 ?_
        refine tm_iload_1 46 rfl dX9_weight_45 ?_
        refine tm_iload_2 47 rfl dX9_weight_46 ?_
        refine tm_ast rfl (ix := k) (ix_nI (by omega) (by decide)) 48 rfl dX9_weight_47 ?_
        refine tm_iload_3 49 rfl dX9_weight_48 ?_
        refine tm_bipush (100) (by decide) 51 rfl dX9_weight_49 ?_
        refine tm_iadd 52 rfl dX9_weight_51 ?_
        exact tm_iret (by rw [wgt_3 (by omega) h8 hr]) (by rw [wgt_3 (by omega) h8 hr]; exact putC_w hC (by omega) _) rfl dX9_weight_52
      · refine tm_bipush (-2) (by decide) 27 rfl dX9_weight_25 ?_
        exact tm_iret (by first | rw [wgt_2 h8 (rng_1 (b := 9) h16)] | rw [wgt_2 h8 (rng_2 (a := -9) h22)]) (by first | (rw [wgt_2 h8 (rng_1 (b := 9) h16)]; exact (putC_self hC).symm) | (rw [wgt_2 h8 (rng_2 (a := -9) h22)]; exact (putC_self hC).symm)) rfl dX9_weight_27
  · refine tm_iconst (-1) rfl 12 rfl dX9_weight_11 ?_
    exact tm_iret (by rw [wgt_1 h8]) (by rw [wgt_1 h8]; exact (putC_self hC).symm) rfl dX9_weight_12

set_option maxRecDepth 100000 in
set_option maxHeartbeats 4000000 in
theorem c_X9_quota {g : GC} {d : Nat} {M : MI} {L : ML} {σ : AS} (hC : hasC M σ) (hσ : okS σ) {x : Int32} : CfI g (d) yX9_quota cX9_quota 3 .int [rf g 0, .int x] M L ((opQuo σ x).1) (putC M (opQuo σ x).2) (L) := by
  have hn := hC.1
  have h4 := hσ.2.1
  have h16 := pow4 h4
  have hp1 := Nat.two_pow_pos σ.1
  have hc := okp hσ
  refine cfI_of (own := RX9) (l := [some (rf g 0), some (.int x), none]) 1 rfl rfl rfl (Nat.le_of_ble_eq_true rfl) ?_
  refine tm_iload_1 1 rfl dX9_quota_0 ?_
  refine tm_bipush (-40) (by decide) 3 rfl dX9_quota_1 ?_
  refine tm_icmp_lt 12 6 rfl rfl dX9_quota_3 (fun h3 => ?_) (fun h3 => ?_)
  · refine tm_bipush (-2) (by decide) 14 rfl dX9_quota_12 ?_
    exact tm_iret (by first | rw [quo_1 (rng_1 (b := 40) h3)] | rw [quo_1 (rng_2 (a := -40) h9)]) (by first | (rw [quo_1 (rng_1 (b := 40) h3)]; exact (putC_self hC).symm) | (rw [quo_1 (rng_2 (a := -40) h9)]; exact (putC_self hC).symm)) rfl dX9_quota_14
  · refine tm_iload_1 7 rfl dX9_quota_6 ?_
    refine tm_bipush (40) (by decide) 9 rfl dX9_quota_7 ?_
    refine tm_icmp_le 15 12 rfl rfl dX9_quota_9 (fun h9 => ?_) (fun h9 => ?_)
    · have hr := rng_3 h3 h9
      refine tm_aload_0 16 rfl dX9_quota_15 ?_
      refine tm_getr fl_X9_12 rfl rfl 19 rfl dX9_quota_16 ?_
      refine tm_geti fl_X9_105 rfl rfl 22 rfl dX9_quota_19 ?_
      rw [hC.2.2.2.1]
      refine tm_istore_2 (by decide) rfl 23 rfl dX9_quota_22 ?_
      refine tm_aload_0 24 rfl dX9_quota_23 ?_
      refine tm_getr fl_X9_12 rfl rfl 27 rfl dX9_quota_24 ?_
      refine tm_iload_1 28 rfl dX9_quota_27 ?_
      refine tm_puti fl_X9_105 fw_3_4 rfl rfl rfl rfl 31 rfl dX9_quota_28 ?_
      refine tm_iload_2 32 rfl dX9_quota_31 ?_
      refine tm_bipush (100) (by decide) 34 rfl dX9_quota_32 ?_
      refine tm_iadd 35 rfl dX9_quota_34 ?_
      exact tm_iret (by rw [quo_2 hr]) (by rw [quo_2 hr]; exact putC_q hC _) rfl dX9_quota_35
    · refine tm_bipush (-2) (by decide) 14 rfl dX9_quota_12 ?_
      exact tm_iret (by first | rw [quo_1 (rng_1 (b := 40) h3)] | rw [quo_1 (rng_2 (a := -40) h9)]) (by first | (rw [quo_1 (rng_1 (b := 40) h3)]; exact (putC_self hC).symm) | (rw [quo_1 (rng_2 (a := -40) h9)]; exact (putC_self hC).symm)) rfl dX9_quota_14

set_option maxRecDepth 100000 in
set_option maxHeartbeats 4000000 in
theorem c_X4_take {g : GC} {d : Nat} {M : MI} {L : ML} {σ : AS} (hC : hasC M σ) {c : Nat} : CfI g (d) yX4_take cX4_take 2 .int [rf g 1, .int (nI c)] M L (nI c) (putC M (σ.1, c, σ.2.2)) (L) := by
  refine cfI_of (own := RX4) (l := [some (rf g 1), some (.int (nI c))]) 0 rfl rfl rfl (Nat.le_of_ble_eq_true rfl) ?_
  refine tm_aload_0 1 rfl dX4_take_0 ?_
  refine tm_iload_1 2 rfl dX4_take_1 ?_
  refine tm_puti fl_X4_15 fw_3_1 rfl rfl rfl rfl 5 rfl dX4_take_2 ?_
  rw [putC_c hC]
  refine tm_iload_1 6 rfl dX4_take_5 ?_
  exact tm_iret rfl rfl rfl dX4_take_6

set_option maxRecDepth 100000 in
set_option maxHeartbeats 4000000 in
theorem c_X9_weigh {g : GC} {d : Nat} {M : MI} {L : ML} {σ : AS} (hC : hasC M σ) (hσ : okS σ) : CfI g (d + 3) yX9_weigh cX9_weigh 1 .int [rf g 0] M L ((opWei σ).1) (putC M (opWei σ).2) (L) := by
  have hn := hC.1
  have h4 := hσ.2.1
  have h16 := pow4 h4
  have hp1 := Nat.two_pow_pos σ.1
  have hc := okp hσ
  refine cfI_of (own := RX9) (l := [some (rf g 0)]) 0 rfl rfl rfl (Nat.le_of_ble_eq_true rfl) ?_
  refine tm_aload_0 1 rfl dX9_weigh_0 ?_
  refine tm_getr fl_X9_12 rfl rfl 4 rfl dX9_weigh_1 ?_
  refine tm_aload_0 5 rfl dX9_weigh_4 ?_
  refine tm_getr fl_X9_12 rfl rfl 8 rfl dX9_weigh_5 ?_
  refine tm_callV_I (ci := 3) (c_X4_weighed hC hσ) mv_X4_weighed ml_X9_108 rfl rfl rfl rfl rfl (Nat.le_of_ble_eq_true rfl) 11 rfl dX9_weigh_8 ?_
  refine tm_callV_I (ci := 3) (c_X4_take hC) mv_X4_take ml_X9_112 rfl rfl rfl rfl rfl (Nat.le_of_ble_eq_true rfl) 14 rfl dX9_weigh_11 ?_
  exact tm_iret rfl rfl rfl dX9_weigh_14

set_option maxRecDepth 100000 in
set_option maxHeartbeats 4000000 in
theorem c_X9_keep {g : GC} {d : Nat} {M : MI} {L : ML} {σ : AS} (hC : hasC M σ) (hσ : okS σ) : CfI g (d) yX9_keep cX9_keep 1 .int [rf g 0] M L ((opKeep σ).1) (putC M (opKeep σ).2) (L) := by
  have hn := hC.1
  have h4 := hσ.2.1
  have h16 := pow4 h4
  have hp1 := Nat.two_pow_pos σ.1
  have hc := okp hσ
  refine cfI_of (own := RX9) (l := [some (rf g 0)]) 0 rfl rfl rfl (Nat.le_of_ble_eq_true rfl) ?_
  refine tm_aload_0 1 rfl dX9_keep_0 ?_
  refine tm_getr fl_X9_12 rfl rfl 4 rfl dX9_keep_1 ?_
  refine tm_aload_0 5 rfl dX9_keep_4 ?_
  refine tm_getr fl_X9_12 rfl rfl 8 rfl dX9_keep_5 ?_
  refine tm_geti fl_X9_82 rfl rfl 11 rfl dX9_keep_8 ?_
  rw [hC.2.1]
  refine tm_puti fl_X9_141 fw_3_2 rfl rfl rfl rfl 14 rfl dX9_keep_11 ?_
  rw [putC_k hC]
  refine tm_aload_0 15 rfl dX9_keep_14 ?_
  refine tm_getr fl_X9_12 rfl rfl 18 rfl dX9_keep_15 ?_
  refine tm_geti fl_X9_141 rfl rfl 21 rfl dX9_keep_18 ?_
  exact tm_iret (by rw [putC_1]; rfl) rfl rfl dX9_keep_21

set_option maxRecDepth 100000 in
set_option maxHeartbeats 4000000 in
theorem c_X9_turn {g : GC} {d : Nat} {M : MI} {L : ML} {σ : AS} (hC : hasC M σ) (hσ : okS σ) {x : Int32} : CfI g (d + 2) yX9_turn cX9_turn 2 .int [rf g 0, .int x] M L ((opTrn σ x).1) (putC M (opTrn σ x).2) (L) := by
  have hn := hC.1
  have h4 := hσ.2.1
  have h16 := pow4 h4
  have hp1 := Nat.two_pow_pos σ.1
  have hc := okp hσ
  refine cfI_of (own := RX9) (l := [some (rf g 0), some (.int x)]) 0 rfl rfl rfl (Nat.le_of_ble_eq_true rfl) ?_
  refine tm_aload_0 1 rfl dX9_turn_0 ?_
  refine tm_getr fl_X9_12 rfl rfl 4 rfl dX9_turn_1 ?_
  refine tm_iload_1 5 rfl dX9_turn_4 ?_
  refine tm_callV_I (ci := 3) (c_X4_hasVoter hC hσ) mv_X4_hasVoter ml_X9_98 rfl rfl rfl rfl rfl (Nat.le_of_ble_eq_true rfl) 8 rfl dX9_turn_5 ?_
  refine tm_if_neB 13 11 rfl rfl dX9_turn_8 (fun h8 => ?_) (fun h8 => ?_)
  · obtain ⟨k, hk, rfl⟩ := inN_of h8
    refine tm_aload_0 14 rfl dX9_turn_13 ?_
    refine tm_getr fl_X9_12 rfl rfl 17 rfl dX9_turn_14 ?_
    refine tm_aload_0 18 rfl dX9_turn_17 ?_
    refine tm_getr fl_X9_12 rfl rfl 21 rfl dX9_turn_18 ?_
    refine tm_geti fl_X9_82 rfl rfl 24 rfl dX9_turn_21 ?_
    rw [hC.2.1]
    refine tm_iload_1 25 rfl dX9_turn_24 ?_
    refine tm_callS_I (c_X0_turned (c := σ.2.1) h4 hσ.2.2.1 hk) ms_X0_turned ml_X9_134 rfl rfl (Nat.le_of_ble_eq_true rfl) 28 rfl dX9_turn_25 ?_
    refine tm_callV_I (ci := 3) (c_X4_take hC) mv_X4_take ml_X9_112 rfl rfl rfl rfl rfl (Nat.le_of_ble_eq_true rfl) 31 rfl dX9_turn_28 ?_
    exact tm_iret (by rw [trn_2 (by omega) h8]) (by rw [trn_2 (by omega) h8]) rfl dX9_turn_31
  · refine tm_iconst (-1) rfl 12 rfl dX9_turn_11 ?_
    exact tm_iret (by rw [trn_1 h8]) (by rw [trn_1 h8]; exact (putC_self hC).symm) rfl dX9_turn_12

set_option maxRecDepth 100000 in
set_option maxHeartbeats 4000000 in
theorem c_X9_exchange {g : GC} {d : Nat} {M : MI} {L : ML} {σ : AS} (hC : hasC M σ) (hσ : okS σ) {x y : Int32} : CfI g (d + 2) yX9_exchange cX9_exchange 3 .int [rf g 0, .int x, .int y] M L ((opExc σ x y).1) (putC M (opExc σ x y).2) (L) := by
  have hn := hC.1
  have h4 := hσ.2.1
  have h16 := pow4 h4
  have hp1 := Nat.two_pow_pos σ.1
  have hc := okp hσ
  refine cfI_of (own := RX9) (l := [some (rf g 0), some (.int x), some (.int y)]) 0 rfl rfl rfl (Nat.le_of_ble_eq_true rfl) ?_
  refine tm_aload_0 1 rfl dX9_exchange_0 ?_
  refine tm_getr fl_X9_12 rfl rfl 4 rfl dX9_exchange_1 ?_
  refine tm_iload_1 5 rfl dX9_exchange_4 ?_
  refine tm_callV_I (ci := 3) (c_X4_hasVoter hC hσ) mv_X4_hasVoter ml_X9_98 rfl rfl rfl rfl rfl (Nat.le_of_ble_eq_true rfl) 8 rfl dX9_exchange_5 ?_
  refine tm_if_eqB 27 11 rfl rfl dX9_exchange_8 (fun h8 => ?_) (fun h8 => ?_)
  · refine tm_iconst (-1) rfl 28 rfl dX9_exchange_27 ?_
    exact tm_iret (by first | rw [exc_1 (Or.inl h8)] | rw [exc_1 (Or.inr (Or.inl h19))] | rw [exc_1 (Or.inr (Or.inr h24))]) (by first | (rw [exc_1 (Or.inl h8)]; exact (putC_self hC).symm) | (rw [exc_1 (Or.inr (Or.inl h19))]; exact (putC_self hC).symm) | (rw [exc_1 (Or.inr (Or.inr h24))]; exact (putC_self hC).symm)) rfl dX9_exchange_28
  · refine tm_aload_0 12 rfl dX9_exchange_11 ?_
    refine tm_getr fl_X9_12 rfl rfl 15 rfl dX9_exchange_12 ?_
    refine tm_iload_2 16 rfl dX9_exchange_15 ?_
    refine tm_callV_I (ci := 3) (c_X4_hasVoter hC hσ) mv_X4_hasVoter ml_X9_98 rfl rfl rfl rfl rfl (Nat.le_of_ble_eq_true rfl) 19 rfl dX9_exchange_16 ?_
    refine tm_if_eqB 27 22 rfl rfl dX9_exchange_19 (fun h19 => ?_) (fun h19 => ?_)
    · refine tm_iconst (-1) rfl 28 rfl dX9_exchange_27 ?_
      exact tm_iret (by first | rw [exc_1 (Or.inl h8)] | rw [exc_1 (Or.inr (Or.inl h19))] | rw [exc_1 (Or.inr (Or.inr h24))]) (by first | (rw [exc_1 (Or.inl h8)]; exact (putC_self hC).symm) | (rw [exc_1 (Or.inr (Or.inl h19))]; exact (putC_self hC).symm) | (rw [exc_1 (Or.inr (Or.inr h24))]; exact (putC_self hC).symm)) rfl dX9_exchange_28
    · refine tm_iload_1 23 rfl dX9_exchange_22 ?_
      refine tm_iload_2 24 rfl dX9_exchange_23 ?_
      refine tm_icmp_ne 29 27 rfl rfl dX9_exchange_24 (fun h24 => ?_) (fun h24 => ?_)
      · obtain ⟨i, hi, rfl⟩ := inN_of h8
        obtain ⟨j, hj, rfl⟩ := inN_of h19
        refine tm_aload_0 30 rfl dX9_exchange_29 ?_
        refine tm_getr fl_X9_12 rfl rfl 33 rfl dX9_exchange_30 ?_
        refine tm_aload_0 34 rfl dX9_exchange_33 ?_
        refine tm_getr fl_X9_12 rfl rfl 37 rfl dX9_exchange_34 ?_
        refine tm_geti fl_X9_82 rfl rfl 40 rfl dX9_exchange_37 ?_
        rw [hC.2.1]
        refine tm_iload_1 41 rfl dX9_exchange_40 ?_
        refine tm_iload_2 42 rfl dX9_exchange_41 ?_
        refine tm_callS_I (c_X0_changedAbout (c := σ.2.1) h4 hσ.2.2.1 hi hj (fun q => h24 (by rw [q]))) ms_X0_changedAbout ml_X9_137 rfl rfl (Nat.le_of_ble_eq_true rfl) 45 rfl dX9_exchange_42 ?_
        refine tm_callV_I (ci := 3) (c_X4_take hC) mv_X4_take ml_X9_112 rfl rfl rfl rfl rfl (Nat.le_of_ble_eq_true rfl) 48 rfl dX9_exchange_45 ?_
        exact tm_iret (by rw [exc_2 (by omega) (by omega) h8 h19 h24]) (by rw [exc_2 (by omega) (by omega) h8 h19 h24]) rfl dX9_exchange_48
      · refine tm_iconst (-1) rfl 28 rfl dX9_exchange_27 ?_
        exact tm_iret (by first | rw [exc_1 (Or.inl h8)] | rw [exc_1 (Or.inr (Or.inl h19))] | rw [exc_1 (Or.inr (Or.inr h24))]) (by first | (rw [exc_1 (Or.inl h8)]; exact (putC_self hC).symm) | (rw [exc_1 (Or.inr (Or.inl h19))]; exact (putC_self hC).symm) | (rw [exc_1 (Or.inr (Or.inr h24))]; exact (putC_self hC).symm)) rfl dX9_exchange_28

set_option maxRecDepth 100000 in
set_option maxHeartbeats 4000000 in
theorem c_X9_becomes0 {g : GC} {d : Nat} {M : MI} {L : ML} {σ : AS} (hC : hasC M σ) (hσ : okS σ) : CfI g (d + 3) yX9_becomes cX9_becomes 2 .int [rf g 0, .int 0] M L ((opDua σ).1) (putC M (opDua σ).2) (L) := by
  have hn := hC.1
  have h4 := hσ.2.1
  have h16 := pow4 h4
  have hp1 := Nat.two_pow_pos σ.1
  have hc := okp hσ
  refine cfI_of (own := RX9) (l := [some (rf g 0), some (.int 0)]) 0 rfl rfl rfl (Nat.le_of_ble_eq_true rfl) ?_
  refine tm_iload_1 1 rfl dX9_becomes_0 ?_
  refine tm_swIn (off := 27) 28 (by decide) (by decide) (by decide +kernel) rfl dX9_becomes_1 ?_
  refine tm_aload_0 29 rfl dX9_becomes_28 ?_
  refine tm_getr fl_X9_12 rfl rfl 32 rfl dX9_becomes_29 ?_
  refine tm_aload_0 33 rfl dX9_becomes_32 ?_
  refine tm_getr fl_X9_12 rfl rfl 36 rfl dX9_becomes_33 ?_
  refine tm_geti fl_X9_67 rfl rfl 39 rfl dX9_becomes_36 ?_
  rw [hn]
  refine tm_aload_0 40 rfl dX9_becomes_39 ?_
  refine tm_getr fl_X9_12 rfl rfl 43 rfl dX9_becomes_40 ?_
  refine tm_geti fl_X9_82 rfl rfl 46 rfl dX9_becomes_43 ?_
  rw [hC.2.1]
  refine tm_callS_I (c_X0_dual (c := σ.2.1) h4 hσ.2.2.1) ms_X0_dual ml_X9_115 rfl rfl (Nat.le_of_ble_eq_true rfl) 49 rfl dX9_becomes_46 ?_
  refine tm_callV_I (ci := 3) (c_X4_take hC) mv_X4_take ml_X9_112 rfl rfl rfl rfl rfl (Nat.le_of_ble_eq_true rfl) 52 rfl dX9_becomes_49 ?_
  exact tm_iret rfl rfl rfl dX9_becomes_52

set_option maxRecDepth 100000 in
set_option maxHeartbeats 4000000 in
theorem c_X9_becomes1 {g : GC} {d : Nat} {M : MI} {L : ML} {σ : AS} (hC : hasC M σ) (hσ : okS σ) : CfI g (d + 3) yX9_becomes cX9_becomes 2 .int [rf g 0, .int 1] M L ((opOpp σ).1) (putC M (opOpp σ).2) (L) := by
  have hn := hC.1
  have h4 := hσ.2.1
  have h16 := pow4 h4
  have hp1 := Nat.two_pow_pos σ.1
  have hc := okp hσ
  refine cfI_of (own := RX9) (l := [some (rf g 0), some (.int 1)]) 0 rfl rfl rfl (Nat.le_of_ble_eq_true rfl) ?_
  refine tm_iload_1 1 rfl dX9_becomes_0 ?_
  refine tm_swIn (off := 52) 53 (by decide) (by decide) (by decide +kernel) rfl dX9_becomes_1 ?_
  refine tm_aload_0 54 rfl dX9_becomes_53 ?_
  refine tm_getr fl_X9_12 rfl rfl 57 rfl dX9_becomes_54 ?_
  refine tm_aload_0 58 rfl dX9_becomes_57 ?_
  refine tm_getr fl_X9_12 rfl rfl 61 rfl dX9_becomes_58 ?_
  refine tm_geti fl_X9_67 rfl rfl 64 rfl dX9_becomes_61 ?_
  rw [hn]
  refine tm_aload_0 65 rfl dX9_becomes_64 ?_
  refine tm_getr fl_X9_12 rfl rfl 68 rfl dX9_becomes_65 ?_
  refine tm_geti fl_X9_82 rfl rfl 71 rfl dX9_becomes_68 ?_
  rw [hC.2.1]
  refine tm_callS_I (c_X0_opposite (c := σ.2.1) h4 hσ.2.2.1) ms_X0_opposite ml_X9_118 rfl rfl (Nat.le_of_ble_eq_true rfl) 74 rfl dX9_becomes_71 ?_
  refine tm_callV_I (ci := 3) (c_X4_take hC) mv_X4_take ml_X9_112 rfl rfl rfl rfl rfl (Nat.le_of_ble_eq_true rfl) 77 rfl dX9_becomes_74 ?_
  exact tm_iret rfl rfl rfl dX9_becomes_77


/-! rows told by hand -/
def adK (σ : AS) (n s : Nat) (x y : Int32) : Nat := if x = -1 then 0 else if inN x (2 ^ σ.1) = false then 1 else if inN y 2 = false then 2 else if s < n then 3 else 4
def adA (s k : Nat) : Int32 := if k = 0 then 0 else if k = 1 then -1 else if k = 2 then -2 else if k = 3 then nI (s + 1) else -4
def adC (M : MI) (r s : Nat) (x y : Int32) (k : Nat) : MI := if k = 0 then s1 M r 2 0 else if k = 3 then s1 (s1 (s1 M (r + 1) s x) (r + 2) s y) r 2 (nI (s + 1)) else M
def zG (M : MI) (a b : Nat) : MI := sr M 55 (fun j => if a ≤ j ∧ j < b then 0 else M 55 j)
def adM (M : MI) (b n s : Nat) (x y : Int32) (k : Nat) : MI := if k = 0 then zG M b (b + (n + n + 1)) else if k = 3 then s1 (s1 (s1 M 55 (b + 1 + s) x) 55 (b + 1 + n + s) y) 55 b (nI (s + 1)) else M
theorem adK_0 {σ : AS} {n s : Nat} {x y : Int32} (h : x = -1) : adK σ n s x y = 0 := if_pos h
theorem adK_1 {σ : AS} {n s : Nat} {x y : Int32} (h : ¬ x = -1) (h1 : inN x (2 ^ σ.1) = false) : adK σ n s x y = 1 := by unfold adK; rw [if_neg h, if_pos h1]
theorem adK_2 {σ : AS} {n s : Nat} {x y : Int32} (h : ¬ x = -1) (h1 : inN x (2 ^ σ.1) = true) (h2 : inN y 2 = false) : adK σ n s x y = 2 := by unfold adK; rw [if_neg h, if_neg (by rw [h1]; decide), if_pos h2]
theorem adK_3 {σ : AS} {n s : Nat} {x y : Int32} (h : ¬ x = -1) (h1 : inN x (2 ^ σ.1) = true) (h2 : inN y 2 = true) (h3 : s < n) : adK σ n s x y = 3 := by unfold adK; rw [if_neg h, if_neg (by rw [h1]; decide), if_neg (by rw [h2]; decide), if_pos h3]
theorem adK_4 {σ : AS} {n s : Nat} {x y : Int32} (h : ¬ x = -1) (h1 : inN x (2 ^ σ.1) = true) (h2 : inN y 2 = true) (h3 : ¬ s < n) : adK σ n s x y = 4 := by unfold adK; rw [if_neg h, if_neg (by rw [h1]; decide), if_neg (by rw [h2]; decide), if_neg h3]
/-- a Rows object at r: its shape -/
def rowS (r n : Nat) : Prop := shp r = some (.inl (1, [some (r + 1), some (r + 2), none])) ∧ shp (r + 1) = some (.inr (0, n, [])) ∧ shp (r + 2) = some (.inr (0, n, []))
theorem sg_lt {s n : Nat} (hn : n ≤ 100) (hs : s ≤ n) (h : nI s < nI n) : s < n := (nI_ltI (by omega) (by omega)).mp h
theorem sg_ge {s n : Nat} (hn : n ≤ 100) (hs : s ≤ n) (h : ¬ nI s < nI n) : ¬ s < n := fun q => h ((nI_ltI (by omega) (by omega)).mpr q)
theorem rn_1 (r : Nat) : r ≠ r + 1 := by omega
theorem rn_2 (r : Nat) : r ≠ r + 2 := by omega
set_option maxRecDepth 100000 in
set_option maxHeartbeats 4000000 in
theorem c_X2_append {g : GC} {d : Nat} {M : MI} {L : ML} {r n s : Nat} (hr : rowS r n) (hn100 : n ≤ 100) (hs : M r 2 = nI s) (hsn : s ≤ n) {x y : Int32} : CfI g (d) yX2_append cX2_append 3 .boolean [rf g r, .int x, .int y] M L (bI (decide (s < n))) (if s < n then s1 (s1 (s1 M (r + 1) s x) (r + 2) s y) r 2 (nI (s + 1)) else M) (L) := by
  refine cfI_of (own := RX2) (l := [some (rf g r), some (.int x), some (.int y)]) 0 rfl rfl rfl (Nat.le_of_ble_eq_true rfl) ?_
  refine tm_aload_0 1 rfl dX2_append_0 ?_
  refine tm_geti fl_X2_7 hr.1 rfl 4 rfl dX2_append_1 ?_
  rw [hs]
  refine tm_aload_0 5 rfl dX2_append_4 ?_
  refine tm_getr fl_X2_13 hr.1 rfl 8 rfl dX2_append_5 ?_
  refine tm_alenI hr.2.1 9 rfl dX2_append_8 ?_
  refine tm_icmp_lt 14 12 rfl rfl dX2_append_9 (fun h9 => ?_) (fun h9 => ?_)
  · refine tm_aload_0 15 rfl dX2_append_14 ?_
    refine tm_getr fl_X2_13 hr.1 rfl 18 rfl dX2_append_15 ?_
    refine tm_aload_0 19 rfl dX2_append_18 ?_
    refine tm_geti fl_X2_7 hr.1 rfl 22 rfl dX2_append_19 ?_
    rw [hs]
    refine tm_iload_1 23 rfl dX2_append_22 ?_
    refine tm_ast hr.2.1 (ix := s) (ix_nI (sg_lt hn100 hsn h9) (by omega)) 24 rfl dX2_append_23 ?_
    refine tm_aload_0 25 rfl dX2_append_24 ?_
    refine tm_getr fl_X2_17 hr.1 rfl 28 rfl dX2_append_25 ?_
    refine tm_aload_0 29 rfl dX2_append_28 ?_
    refine tm_geti fl_X2_7 hr.1 rfl 32 rfl dX2_append_29 ?_
    rw [s1_ne (rn_1 r), hs]
    refine tm_iload_2 33 rfl dX2_append_32 ?_
    refine tm_ast hr.2.2 (ix := s) (ix_nI (sg_lt hn100 hsn h9) (by omega)) 34 rfl dX2_append_33 ?_
    refine tm_aload_0 35 rfl dX2_append_34 ?_
    refine tm_dup rfl 36 rfl dX2_append_35 ?_
    refine tm_geti fl_X2_7 hr.1 rfl 39 rfl dX2_append_36 ?_
    refine tm_iconst (1) rfl 40 rfl dX2_append_39 ?_
    refine tm_iadd 41 rfl dX2_append_40 ?_
    rw [s1_ne (rn_2 r), s1_ne (rn_1 r), hs, nI_1]
    refine tm_puti fl_X2_7 fw_1_2 hr.1 rfl rfl rfl 44 rfl dX2_append_41 ?_
    refine tm_iconst (1) rfl 45 rfl dX2_append_44 ?_
    exact tm_zret (by decide) (by rw [decide_eq_true (sg_lt hn100 hsn h9)]; rfl) (by rw [if_pos (sg_lt hn100 hsn h9)]) rfl dX2_append_45
  · refine tm_iconst (0) rfl 13 rfl dX2_append_12 ?_
    exact tm_zret (by decide) (by rw [decide_eq_false (sg_ge hn100 hsn h9)]; rfl) (by rw [if_neg (sg_ge hn100 hsn h9)]) rfl dX2_append_13

set_option maxRecDepth 100000 in
set_option maxHeartbeats 4000000 in
theorem c_X9_addSaying {g : GC} {d : Nat} {M : MI} {L : ML} {σ : AS} (hC : hasC M σ) (hσ : okS σ) {r n s : Nat} (hr : rowS r n) (hn100 : n ≤ 100) (hs : M r 2 = nI s) (hsn : s ≤ n) {x y : Int32} : CfI g (d + 2) yX9_addSaying cX9_addSaying 4 .int [rf g 0, rf g r, .int x, .int y] M L (adA s (adK σ n s x y)) (adC M r s x y (adK σ n s x y)) (L) := by
  have hn := hC.1
  have h4 := hσ.2.1
  have h16 := pow4 h4
  have hp1 := Nat.two_pow_pos σ.1
  have hc := okp hσ
  refine cfI_of (own := RX9) (l := [some (rf g 0), some (rf g r), some (.int x), some (.int y)]) 0 rfl rfl rfl (Nat.le_of_ble_eq_true rfl) ?_
  refine tm_iload_2 1 rfl dX9_addSaying_0 ?_
  refine tm_iconst (-1) rfl 2 rfl dX9_addSaying_1 ?_
  refine tm_icmp_ne 12 5 rfl rfl dX9_addSaying_2 (fun h2 => ?_) (fun h2 => ?_)
  · refine tm_aload_0 13 rfl dX9_addSaying_12 ?_
    refine tm_getr fl_X9_12 rfl rfl 16 rfl dX9_addSaying_13 ?_
    refine tm_iload_2 17 rfl dX9_addSaying_16 ?_
    refine tm_callV_I (ci := 3) (c_X4_hasLot hC hσ) mv_X4_hasLot ml_X9_75 rfl rfl rfl rfl rfl (Nat.le_of_ble_eq_true rfl) 20 rfl dX9_addSaying_17 ?_
    refine tm_if_neB 25 23 rfl rfl dX9_addSaying_20 (fun h20 => ?_) (fun h20 => ?_)
    · refine tm_iload_3 26 rfl dX9_addSaying_25 ?_
      refine tm_callS_I (c_X9_isYesOrNo) ms_X9_isYesOrNo ml_X9_79 rfl rfl (Nat.le_of_ble_eq_true rfl) 29 rfl dX9_addSaying_26 ?_
      refine tm_if_neB 35 32 rfl rfl dX9_addSaying_29 (fun h29 => ?_) (fun h29 => ?_)
      · refine tm_aload_1 36 rfl dX9_addSaying_35 ?_
        refine tm_iload_2 37 rfl dX9_addSaying_36 ?_
        refine tm_iload_3 38 rfl dX9_addSaying_37 ?_
        refine tm_callV_I (ci := 1) (c_X2_append hr hn100 hs hsn) mv_X2_append ml_X9_282 rfl hr.1 rfl rfl rfl (Nat.le_of_ble_eq_true rfl) 41 rfl dX9_addSaying_38 ?_
        refine tm_if_eqB 51 44 rfl rfl dX9_addSaying_41 (fun h41 => ?_) (fun h41 => ?_)
        · refine tm_bipush (-4) (by decide) 53 rfl dX9_addSaying_51 ?_
          exact tm_iret (by first | (rw [adK_3 h2 h20 h29 (of_decide_eq_true h41)]; rfl) | (rw [adK_4 h2 h20 h29 (of_decide_eq_false h41)]; rfl)) (by first | (rw [adK_3 h2 h20 h29 (of_decide_eq_true h41)]; rfl) | (rw [adK_4 h2 h20 h29 (of_decide_eq_false h41), if_neg (of_decide_eq_false h41)]; rfl)) rfl dX9_addSaying_53
        · refine tm_aload_1 45 rfl dX9_addSaying_44 ?_
          rw [if_pos (of_decide_eq_true h41)]
          refine tm_geti fl_X9_262 hr.1 rfl 48 rfl dX9_addSaying_45 ?_
          rw [s1_eq]
          refine tm_goto 53 rfl dX9_addSaying_48 ?_
          exact tm_iret (by first | (rw [adK_3 h2 h20 h29 (of_decide_eq_true h41)]; rfl) | (rw [adK_4 h2 h20 h29 (of_decide_eq_false h41)]; rfl)) (by first | (rw [adK_3 h2 h20 h29 (of_decide_eq_true h41)]; rfl) | (rw [adK_4 h2 h20 h29 (of_decide_eq_false h41), if_neg (of_decide_eq_false h41)]; rfl)) rfl dX9_addSaying_53
      · refine tm_bipush (-2) (by decide) 34 rfl dX9_addSaying_32 ?_
        exact tm_iret (by rw [adK_2 h2 h20 h29]; rfl) (by rw [adK_2 h2 h20 h29]; rfl) rfl dX9_addSaying_34
    · refine tm_iconst (-1) rfl 24 rfl dX9_addSaying_23 ?_
      exact tm_iret (by rw [adK_1 h2 h20]; rfl) (by rw [adK_1 h2 h20]; rfl) rfl dX9_addSaying_24
  · refine tm_aload_1 6 rfl dX9_addSaying_5 ?_
    refine tm_iconst (0) rfl 7 rfl dX9_addSaying_6 ?_
    refine tm_puti fl_X9_262 fw_1_2 hr.1 rfl rfl rfl 10 rfl dX9_addSaying_7 ?_
    refine tm_iconst (0) rfl 11 rfl dX9_addSaying_10 ?_
    exact tm_iret (by rw [adK_0 h2]; rfl) (by rw [adK_0 h2]; rfl) rfl dX9_addSaying_11

set_option maxRecDepth 100000 in
set_option maxHeartbeats 4000000 in
theorem c_X9_see {g : GC} {d : Nat} {M : MI} {L : ML} {σ : AS} (hC : hasC M σ) (hσ : okS σ) {s : Nat} (hs : M 3 2 = nI s) (hsn : s ≤ 6) {x y : Int32} : CfI g (d + 3) yX9_see cX9_see 3 .int [rf g 0, .int x, .int y] M L (adA s (adK σ 6 s x y)) (adC M 3 s x y (adK σ 6 s x y)) (L) := by
  refine cfI_of (own := RX9) (l := [some (rf g 0), some (.int x), some (.int y)]) 0 rfl rfl rfl (Nat.le_of_ble_eq_true rfl) ?_
  refine tm_aload_0 1 rfl dX9_see_0 ?_
  refine tm_aload_0 2 rfl dX9_see_1 ?_
  refine tm_getr fl_X9_12 rfl rfl 5 rfl dX9_see_2 ?_
  refine tm_getr fl_X9_243 rfl rfl 8 rfl dX9_see_5 ?_
  refine tm_iload_1 9 rfl dX9_see_8 ?_
  refine tm_iload_2 10 rfl dX9_see_9 ?_
  refine tm_callV_I (ci := 8) (c_X9_addSaying hC hσ (r := 3) (n := 6) ⟨rfl, rfl, rfl⟩ (by decide) hs hsn) mv_X9_addSaying ml_X9_247 rfl rfl rfl rfl rfl (Nat.le_of_ble_eq_true rfl) 13 rfl dX9_see_10 ?_
  exact tm_iret rfl rfl rfl dX9_see_13

set_option maxRecDepth 100000 in
set_option maxHeartbeats 4000000 in
theorem c_X9_book {g : GC} {d : Nat} {M : MI} {L : ML} {σ : AS} (hC : hasC M σ) (hσ : okS σ) {s : Nat} (hs : M 9 2 = nI s) (hsn : s ≤ 8) {x y : Int32} : CfI g (d + 3) yX9_book cX9_book 3 .int [rf g 0, .int x, .int y] M L (adA s (adK σ 8 s x y)) (adC M 9 s x y (adK σ 8 s x y)) (L) := by
  refine cfI_of (own := RX9) (l := [some (rf g 0), some (.int x), some (.int y)]) 0 rfl rfl rfl (Nat.le_of_ble_eq_true rfl) ?_
  refine tm_aload_0 1 rfl dX9_book_0 ?_
  refine tm_aload_0 2 rfl dX9_book_1 ?_
  refine tm_getr fl_X9_12 rfl rfl 5 rfl dX9_book_2 ?_
  refine tm_getr fl_X9_290 rfl rfl 8 rfl dX9_book_5 ?_
  refine tm_iload_1 9 rfl dX9_book_8 ?_
  refine tm_iload_2 10 rfl dX9_book_9 ?_
  refine tm_callV_I (ci := 8) (c_X9_addSaying hC hσ (r := 9) (n := 8) ⟨rfl, rfl, rfl⟩ (by decide) hs hsn) mv_X9_addSaying ml_X9_247 rfl rfl rfl rfl rfl (Nat.le_of_ble_eq_true rfl) 13 rfl dX9_book_10 ?_
  exact tm_iret rfl rfl rfl dX9_book_13

def zGk (M : MI) (a k : Nat) : MI := zG M a (a + k)
theorem zGk_0 (M : MI) (a : Nat) : zGk M a 0 = M := by
  unfold zGk zG
  have e : (fun j => if a ≤ j ∧ j < a + 0 then 0 else M 55 j) = M 55 := by funext j; exact if_neg (by omega)
  rw [e, sr_self]
theorem zGk_s (M : MI) (a k : Nat) : s1 (zGk M a k) 55 (a + k) 0 = zGk M a (k + 1) := by
  unfold zGk zG s1
  rw [sr_eq]
  funext i
  by_cases h : i = 55
  · subst h
    rw [sr_eq, sr_eq]
    funext j
    unfold upd
    by_cases q : j = a + k
    · rw [if_pos q, if_pos (by omega)]
    · rw [if_neg q]
      show (if a ≤ j ∧ j < a + k then _ else _) = _
      by_cases q2 : a ≤ j ∧ j < a + k
      · rw [if_pos q2, if_pos (by omega)]
      · rw [if_neg q2, if_neg (by omega)]
  · rw [sr_ne h, sr_ne h, sr_ne h]
theorem eq_n {s n : Nat} (hn : n ≤ 100) (hs : s ≤ n) (h : nI s = nI n) : ¬ s < n := by have := (nI_eq (by omega) (by omega)).mp h; omega
theorem ne_n {s n : Nat} (hn : n ≤ 100) (hs : s ≤ n) (h : ¬ nI s = nI n) : s < n := by
  rcases Nat.lt_or_ge s n with q | q
  · exact q
  · exact absurd (by rw [show s = n by omega]) h
set_option maxRecDepth 100000 in
set_option maxHeartbeats 4000000 in
theorem c_X10_see {g : GC} {d : Nat} {M : MI} {L : ML} {σ : AS} (hM : hasM M σ) (hσ : okS σ) {s : Nat} (hs : M 55 8 = nI s) (hsn : s ≤ 6) {x y : Int32} : CfI g (d + 2) yX10_see cX10_see 4 .int [rf g 54, .int x, .int y] M L (adA s (adK σ 6 s x y)) (adM M 8 6 s x y (adK σ 6 s x y)) (L) := by
  have hn := hM.1
  have h4 := hσ.2.1
  have h16 := pow4 h4
  have hp1 := Nat.two_pow_pos σ.1
  have hc := okp hσ
  refine cfI_of (own := RX10) (l := [some (rf g 54), some (.int x), some (.int y), none]) 1 rfl rfl rfl (Nat.le_of_ble_eq_true rfl) ?_
  refine tm_iload_1 1 rfl dX10_see_0 ?_
  refine tm_iconst (-1) rfl 2 rfl dX10_see_1 ?_
  refine tm_icmp_ne 29 5 rfl rfl dX10_see_2 (fun h2 => ?_) (fun h2 => ?_)
  · refine tm_aload_0 30 rfl dX10_see_29 ?_
    refine tm_iload_1 31 rfl dX10_see_30 ?_
    refine tm_callV_I (ci := 9) (c_X10_isLot hn h4) mv_X10_isLot ml_X10_68 rfl rfl rfl rfl rfl (Nat.le_of_ble_eq_true rfl) 34 rfl dX10_see_31 ?_
    refine tm_if_neB 39 37 rfl rfl dX10_see_34 (fun h34 => ?_) (fun h34 => ?_)
    · refine tm_iload_2 40 rfl dX10_see_39 ?_
      refine tm_i2l 41 rfl dX10_see_40 ?_
      refine tm_lconst 0 rfl 42 rfl dX10_see_41 ?_
      refine tm_lconst 1 rfl 43 rfl dX10_see_42 ?_
      refine tm_callS_I (c_X10_in) ms_X10_in ml_X10_60 rfl rfl (Nat.le_of_ble_eq_true rfl) 46 rfl dX10_see_43 ?_
      rw [btw_in (N := 2) rfl]
      refine tm_if_neB 52 49 rfl rfl dX10_see_46 (fun h46 => ?_) (fun h46 => ?_)
      · refine tm_aload_0 53 rfl dX10_see_52 ?_
        refine tm_getr fl_X10_11 rfl rfl 56 rfl dX10_see_53 ?_
        refine tm_bipush (8) (by decide) 58 rfl dX10_see_56 ?_
        refine tm_ald rfl (ix := 8) ⟨by decide, by decide, by decide⟩ 59 rfl dX10_see_58 ?_
        rw [hs]
        refine tm_bipush (6) (by decide) 61 rfl dX10_see_59 ?_
        refine tm_icmp_ne 67 64 rfl rfl dX10_see_61 (fun h61 => ?_) (fun h61 => ?_)
        · refine tm_aload_0 68 rfl dX10_see_67 ?_
          refine tm_getr fl_X10_11 rfl rfl 71 rfl dX10_see_68 ?_
          refine tm_bipush (9) (by decide) 73 rfl dX10_see_71 ?_
          refine tm_aload_0 74 rfl dX10_see_73 ?_
          refine tm_getr fl_X10_11 rfl rfl 77 rfl dX10_see_74 ?_
          refine tm_bipush (8) (by decide) 79 rfl dX10_see_77 ?_
          refine tm_ald rfl (ix := 8) ⟨by decide, by decide, by decide⟩ 80 rfl dX10_see_79 ?_
          rw [hs, show (9 : Int32) = nI 9 from rfl]
          refine tm_iadd 81 rfl dX10_see_80 ?_
          rw [nI_add]
          refine tm_iload_1 82 rfl dX10_see_81 ?_
          refine tm_ast rfl (ix := 9 + s) (ix_nI (by have := ne_n (by decide) hsn h61; omega) (by decide)) 83 rfl dX10_see_82 ?_
          refine tm_aload_0 84 rfl dX10_see_83 ?_
          refine tm_getr fl_X10_11 rfl rfl 87 rfl dX10_see_84 ?_
          refine tm_bipush (15) (by decide) 89 rfl dX10_see_87 ?_
          refine tm_aload_0 90 rfl dX10_see_89 ?_
          refine tm_getr fl_X10_11 rfl rfl 93 rfl dX10_see_90 ?_
          refine tm_bipush (8) (by decide) 95 rfl dX10_see_93 ?_
          refine tm_ald rfl (ix := 8) ⟨by decide, by decide, by decide⟩ 96 rfl dX10_see_95 ?_
          rw [s1_nk (by omega), hs, show (15 : Int32) = nI 15 from rfl]
          refine tm_iadd 97 rfl dX10_see_96 ?_
          rw [nI_add]
          refine tm_iload_2 98 rfl dX10_see_97 ?_
          refine tm_ast rfl (ix := 15 + s) (ix_nI (by have := ne_n (by decide) hsn h61; omega) (by decide)) 99 rfl dX10_see_98 ?_
          refine tm_aload_0 100 rfl dX10_see_99 ?_
          refine tm_getr fl_X10_11 rfl rfl 103 rfl dX10_see_100 ?_
          refine tm_bipush (8) (by decide) 105 rfl dX10_see_103 ?_
          refine tm_dup2 rfl rfl 106 rfl dX10_see_105 ?_
          refine tm_ald rfl (ix := 8) ⟨by decide, by decide, by decide⟩ 107 rfl dX10_see_106 ?_
          rw [s1_nk (by omega), s1_nk (by omega), hs]
          refine tm_iconst (1) rfl 108 rfl dX10_see_107 ?_
          refine tm_iadd 109 rfl dX10_see_108 ?_
          rw [nI_1]
          refine tm_ast rfl (ix := 8) ⟨by decide, by decide, by decide⟩ 110 rfl dX10_see_109 ?_
          refine tm_aload_0 111 rfl dX10_see_110 ?_
          refine tm_getr fl_X10_11 rfl rfl 114 rfl dX10_see_111 ?_
          refine tm_bipush (8) (by decide) 116 rfl dX10_see_114 ?_
          refine tm_ald rfl (ix := 8) ⟨by decide, by decide, by decide⟩ 117 rfl dX10_see_116 ?_
          rw [s1_eq]
          exact tm_iret (by rw [adK_3 h2 h34 h46 (ne_n (n := 6) (by decide) hsn h61)]; rfl) (by rw [adK_3 h2 h34 h46 (ne_n (n := 6) (by decide) hsn h61)]; rfl) rfl dX10_see_117
        · refine tm_bipush (-4) (by decide) 66 rfl dX10_see_64 ?_
          exact tm_iret (by rw [adK_4 h2 h34 h46 (eq_n (n := 6) (by decide) hsn h61)]; rfl) (by rw [adK_4 h2 h34 h46 (eq_n (n := 6) (by decide) hsn h61)]; rfl) rfl dX10_see_66
      · refine tm_bipush (-2) (by decide) 51 rfl dX10_see_49 ?_
        exact tm_iret (by rw [adK_2 h2 h34 h46]; rfl) (by rw [adK_2 h2 h34 h46]; rfl) rfl dX10_see_51
    · refine tm_iconst (-1) rfl 38 rfl dX10_see_37 ?_
      exact tm_iret (by rw [adK_1 h2 h34]; rfl) (by rw [adK_1 h2 h34]; rfl) rfl dX10_see_38
  · refine tm_bipush (8) (by decide) 7 rfl dX10_see_5 ?_
    refine tm_istore_3 (by decide) rfl 8 rfl dX10_see_7 ?_
    refine tm_mem (zGk_0 M 8) rfl ?_
    refine tm_loop (N := 13) (fun k => Tm g (d + 2) RX10 cX10_see 4 (some .int) (QI g (adA s (adK σ 6 s x y)) (adM M 8 6 s x y (adK σ 6 s x y)) (L)) 8 [some (rf g 54), some (.int x), some (.int y), some (.int (nI (8 + k)))] [] (zGk M 8 k) (L)) (fun k hk ih => ?_) ?_
    · refine tm_iload_3 9 rfl dX10_see_8 ?_
      refine tm_bipush (21) (by decide) 11 rfl dX10_see_9 ?_
      refine tm_icmp_ge_f 14 (nI_ge (show 8 + k < 21 by omega) (by decide)) rfl rfl dX10_see_11 ?_
      refine tm_aload_0 15 rfl dX10_see_14 ?_
      refine tm_getr fl_X10_11 rfl rfl 18 rfl dX10_see_15 ?_
      refine tm_iload_3 19 rfl dX10_see_18 ?_
      refine tm_iconst (0) rfl 20 rfl dX10_see_19 ?_
      skip
      refine tm_ast rfl (ix := 8 + k) (ix_nI (by omega) (by decide)) 21 rfl dX10_see_20 ?_
      refine tm_iinc_3 (nI (8 + (k + 1))) (iinc1 (8 + k)) (by decide) rfl 24 rfl dX10_see_21 ?_
      refine tm_goto 8 rfl dX10_see_24 ?_
      rw [zGk_s]
      exact ih
    · refine tm_iload_3 9 rfl dX10_see_8 ?_
      refine tm_bipush (21) (by decide) 11 rfl dX10_see_9 ?_
      refine tm_icmp_ge_t 27 (nI_le (Nat.le_refl 21) (by decide)) rfl dX10_see_11 ?_
      refine tm_iconst (0) rfl 28 rfl dX10_see_27 ?_
      exact tm_iret (by rw [adK_0 h2]; rfl) (by rw [adK_0 h2]; rfl) rfl dX10_see_28

set_option maxRecDepth 100000 in
set_option maxHeartbeats 4000000 in
theorem c_X10_book {g : GC} {d : Nat} {M : MI} {L : ML} {σ : AS} (hM : hasM M σ) (hσ : okS σ) {s : Nat} (hs : M 55 38 = nI s) (hsn : s ≤ 8) {x y : Int32} : CfI g (d + 2) yX10_book cX10_book 4 .int [rf g 54, .int x, .int y] M L (adA s (adK σ 8 s x y)) (adM M 38 8 s x y (adK σ 8 s x y)) (L) := by
  have hn := hM.1
  have h4 := hσ.2.1
  have h16 := pow4 h4
  have hp1 := Nat.two_pow_pos σ.1
  have hc := okp hσ
  refine cfI_of (own := RX10) (l := [some (rf g 54), some (.int x), some (.int y), none]) 1 rfl rfl rfl (Nat.le_of_ble_eq_true rfl) ?_
  refine tm_iload_1 1 rfl dX10_book_0 ?_
  refine tm_iconst (-1) rfl 2 rfl dX10_book_1 ?_
  refine tm_icmp_ne 29 5 rfl rfl dX10_book_2 (fun h2 => ?_) (fun h2 => ?_)
  · refine tm_aload_0 30 rfl dX10_book_29 ?_
    refine tm_iload_1 31 rfl dX10_book_30 ?_
    refine tm_callV_I (ci := 9) (c_X10_isLot hn h4) mv_X10_isLot ml_X10_68 rfl rfl rfl rfl rfl (Nat.le_of_ble_eq_true rfl) 34 rfl dX10_book_31 ?_
    refine tm_if_neB 39 37 rfl rfl dX10_book_34 (fun h34 => ?_) (fun h34 => ?_)
    · refine tm_iload_2 40 rfl dX10_book_39 ?_
      refine tm_i2l 41 rfl dX10_book_40 ?_
      refine tm_lconst 0 rfl 42 rfl dX10_book_41 ?_
      refine tm_lconst 1 rfl 43 rfl dX10_book_42 ?_
      refine tm_callS_I (c_X10_in) ms_X10_in ml_X10_60 rfl rfl (Nat.le_of_ble_eq_true rfl) 46 rfl dX10_book_43 ?_
      rw [btw_in (N := 2) rfl]
      refine tm_if_neB 52 49 rfl rfl dX10_book_46 (fun h46 => ?_) (fun h46 => ?_)
      · refine tm_aload_0 53 rfl dX10_book_52 ?_
        refine tm_getr fl_X10_11 rfl rfl 56 rfl dX10_book_53 ?_
        refine tm_bipush (38) (by decide) 58 rfl dX10_book_56 ?_
        refine tm_ald rfl (ix := 38) ⟨by decide, by decide, by decide⟩ 59 rfl dX10_book_58 ?_
        rw [hs]
        refine tm_bipush (8) (by decide) 61 rfl dX10_book_59 ?_
        refine tm_icmp_ne 67 64 rfl rfl dX10_book_61 (fun h61 => ?_) (fun h61 => ?_)
        · refine tm_aload_0 68 rfl dX10_book_67 ?_
          refine tm_getr fl_X10_11 rfl rfl 71 rfl dX10_book_68 ?_
          refine tm_bipush (39) (by decide) 73 rfl dX10_book_71 ?_
          refine tm_aload_0 74 rfl dX10_book_73 ?_
          refine tm_getr fl_X10_11 rfl rfl 77 rfl dX10_book_74 ?_
          refine tm_bipush (38) (by decide) 79 rfl dX10_book_77 ?_
          refine tm_ald rfl (ix := 38) ⟨by decide, by decide, by decide⟩ 80 rfl dX10_book_79 ?_
          rw [hs, show (39 : Int32) = nI 39 from rfl]
          refine tm_iadd 81 rfl dX10_book_80 ?_
          rw [nI_add]
          refine tm_iload_1 82 rfl dX10_book_81 ?_
          refine tm_ast rfl (ix := 39 + s) (ix_nI (by have := ne_n (by decide) hsn h61; omega) (by decide)) 83 rfl dX10_book_82 ?_
          refine tm_aload_0 84 rfl dX10_book_83 ?_
          refine tm_getr fl_X10_11 rfl rfl 87 rfl dX10_book_84 ?_
          refine tm_bipush (47) (by decide) 89 rfl dX10_book_87 ?_
          refine tm_aload_0 90 rfl dX10_book_89 ?_
          refine tm_getr fl_X10_11 rfl rfl 93 rfl dX10_book_90 ?_
          refine tm_bipush (38) (by decide) 95 rfl dX10_book_93 ?_
          refine tm_ald rfl (ix := 38) ⟨by decide, by decide, by decide⟩ 96 rfl dX10_book_95 ?_
          rw [s1_nk (by omega), hs, show (47 : Int32) = nI 47 from rfl]
          refine tm_iadd 97 rfl dX10_book_96 ?_
          rw [nI_add]
          refine tm_iload_2 98 rfl dX10_book_97 ?_
          refine tm_ast rfl (ix := 47 + s) (ix_nI (by have := ne_n (by decide) hsn h61; omega) (by decide)) 99 rfl dX10_book_98 ?_
          refine tm_aload_0 100 rfl dX10_book_99 ?_
          refine tm_getr fl_X10_11 rfl rfl 103 rfl dX10_book_100 ?_
          refine tm_bipush (38) (by decide) 105 rfl dX10_book_103 ?_
          refine tm_dup2 rfl rfl 106 rfl dX10_book_105 ?_
          refine tm_ald rfl (ix := 38) ⟨by decide, by decide, by decide⟩ 107 rfl dX10_book_106 ?_
          rw [s1_nk (by omega), s1_nk (by omega), hs]
          refine tm_iconst (1) rfl 108 rfl dX10_book_107 ?_
          refine tm_iadd 109 rfl dX10_book_108 ?_
          rw [nI_1]
          refine tm_ast rfl (ix := 38) ⟨by decide, by decide, by decide⟩ 110 rfl dX10_book_109 ?_
          refine tm_aload_0 111 rfl dX10_book_110 ?_
          refine tm_getr fl_X10_11 rfl rfl 114 rfl dX10_book_111 ?_
          refine tm_bipush (38) (by decide) 116 rfl dX10_book_114 ?_
          refine tm_ald rfl (ix := 38) ⟨by decide, by decide, by decide⟩ 117 rfl dX10_book_116 ?_
          rw [s1_eq]
          exact tm_iret (by rw [adK_3 h2 h34 h46 (ne_n (n := 8) (by decide) hsn h61)]; rfl) (by rw [adK_3 h2 h34 h46 (ne_n (n := 8) (by decide) hsn h61)]; rfl) rfl dX10_book_117
        · refine tm_bipush (-4) (by decide) 66 rfl dX10_book_64 ?_
          exact tm_iret (by rw [adK_4 h2 h34 h46 (eq_n (n := 8) (by decide) hsn h61)]; rfl) (by rw [adK_4 h2 h34 h46 (eq_n (n := 8) (by decide) hsn h61)]; rfl) rfl dX10_book_66
      · refine tm_bipush (-2) (by decide) 51 rfl dX10_book_49 ?_
        exact tm_iret (by rw [adK_2 h2 h34 h46]; rfl) (by rw [adK_2 h2 h34 h46]; rfl) rfl dX10_book_51
    · refine tm_iconst (-1) rfl 38 rfl dX10_book_37 ?_
      exact tm_iret (by rw [adK_1 h2 h34]; rfl) (by rw [adK_1 h2 h34]; rfl) rfl dX10_book_38
  · refine tm_bipush (38) (by decide) 7 rfl dX10_book_5 ?_
    refine tm_istore_3 (by decide) rfl 8 rfl dX10_book_7 ?_
    refine tm_mem (zGk_0 M 38) rfl ?_
    refine tm_loop (N := 17) (fun k => Tm g (d + 2) RX10 cX10_book 4 (some .int) (QI g (adA s (adK σ 8 s x y)) (adM M 38 8 s x y (adK σ 8 s x y)) (L)) 8 [some (rf g 54), some (.int x), some (.int y), some (.int (nI (38 + k)))] [] (zGk M 38 k) (L)) (fun k hk ih => ?_) ?_
    · refine tm_iload_3 9 rfl dX10_book_8 ?_
      refine tm_bipush (55) (by decide) 11 rfl dX10_book_9 ?_
      refine tm_icmp_ge_f 14 (nI_ge (show 38 + k < 55 by omega) (by decide)) rfl rfl dX10_book_11 ?_
      refine tm_aload_0 15 rfl dX10_book_14 ?_
      refine tm_getr fl_X10_11 rfl rfl 18 rfl dX10_book_15 ?_
      refine tm_iload_3 19 rfl dX10_book_18 ?_
      refine tm_iconst (0) rfl 20 rfl dX10_book_19 ?_
      skip
      refine tm_ast rfl (ix := 38 + k) (ix_nI (by omega) (by decide)) 21 rfl dX10_book_20 ?_
      refine tm_iinc_3 (nI (38 + (k + 1))) (iinc1 (38 + k)) (by decide) rfl 24 rfl dX10_book_21 ?_
      refine tm_goto 8 rfl dX10_book_24 ?_
      rw [zGk_s]
      exact ih
    · refine tm_iload_3 9 rfl dX10_book_8 ?_
      refine tm_bipush (55) (by decide) 11 rfl dX10_book_9 ?_
      refine tm_icmp_ge_t 27 (nI_le (Nat.le_refl 55) (by decide)) rfl dX10_book_11 ?_
      refine tm_iconst (0) rfl 28 rfl dX10_book_27 ?_
      exact tm_iret (by rw [adK_0 h2]; rfl) (by rw [adK_0 h2]; rfl) rfl dX10_book_28


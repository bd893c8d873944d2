/-! events -/
def evF (σ : AS) (x y : Int32) : Bool := if x = 0 then inN y (2 ^ σ.1) else if x = 1 then inN y σ.1 else if x = 2 then true else if x = 3 then inN y (σ.1 - 1) else false
def evS (n c : Nat) (x y : Int32) : Nat := if x = 0 then c ^^^ 2 ^ iN y else if x = 1 then tnd n c (iN y) else if x = 2 then dlN n c else chN n c (iN y) (iN y + 1)
theorem evF_0 {σ : AS} {y : Int32} : evF σ 0 y = inN y (2 ^ σ.1) := rfl
theorem evF_1 {σ : AS} {y : Int32} : evF σ 1 y = inN y σ.1 := rfl
theorem evF_2 {σ : AS} {y : Int32} : evF σ 2 y = true := rfl
theorem evF_3 {σ : AS} {y : Int32} : evF σ 3 y = inN y (σ.1 - 1) := rfl
theorem evF_x {σ : AS} {x y : Int32} (h : ¬ inN x 4 = true) : evF σ x y = false := by
  unfold evF
  rw [if_neg (fun q => h (by rw [q]; rfl)), if_neg (fun q => h (by rw [q]; rfl)), if_neg (fun q => h (by rw [q]; rfl)), if_neg (fun q => h (by rw [q]; rfl))]
theorem in4 {x : Int32} (h : inN x 4 = true) : x = 0 ∨ x = 1 ∨ x = 2 ∨ x = 3 := by
  obtain ⟨k, hk, rfl⟩ := inN_of h
  rcases (show k = 0 ∨ k = 1 ∨ k = 2 ∨ k = 3 by omega) with rfl | rfl | rfl | rfl
  · exact Or.inl rfl
  · exact Or.inr (Or.inl rfl)
  · exact Or.inr (Or.inr (Or.inl rfl))
  · exact Or.inr (Or.inr (Or.inr rfl))
theorem ev3_f {n : Nat} {y : Int32} (h : ¬ y < 0) (h2 : ¬ nI n - 1 ≤ y) (h4 : n ≤ 4) (h1 : 1 ≤ n) : (1 : Int32) = bI (inN y (n - 1)) := by
  rw [nI_m1 h1] at h2
  exact inN_f h h2 (by omega)
theorem ev3_g {n : Nat} {y : Int32} (h2 : nI n - 1 ≤ y) (h4 : n ≤ 4) (h1 : 1 ≤ n) : (0 : Int32) = bI (inN y (n - 1)) := by
  rw [nI_m1 h1] at h2
  exact inN_g h2 (by omega)
theorem ev3_m {n : Nat} {y : Int32} (h4 : n ≤ 4) (h1 : 1 ≤ n) : (inN y n = true → inN (y + 1) n = true → inN y (n - 1) = true) ∧ (inN y n = false → inN y (n - 1) = false) ∧ (inN y n = true → inN (y + 1) n = false → inN y (n - 1) = false) := by
  refine ⟨fun a b => ?_, fun a => ?_, fun a b => ?_⟩
  · obtain ⟨k, hk, rfl⟩ := inN_of a
    rw [nI_1, inN_nI (by omega)] at b
    rw [inN_nI (by omega)]
    have := of_decide_eq_true b
    exact decide_eq_true (by omega)
  · have := inN_no a
    exact decide_eq_false (fun q => by omega)
  · obtain ⟨k, hk, rfl⟩ := inN_of a
    rw [nI_1, inN_nI (by omega)] at b
    rw [inN_nI (by omega)]
    have := of_decide_eq_false b
    exact decide_eq_false (by omega)
set_option maxRecDepth 100000 in
set_option maxHeartbeats 4000000 in
theorem c_X9_eventFinds {g : GC} {d : Nat} {M : MI} {L : ML} {σ : AS} (hC : hasC M σ) (hσ : okS σ) {x y : Int32} : CfI g (d + 2) yX9_eventFinds cX9_eventFinds 3 .boolean [rf g 0, .int x, .int y] M L (bI (evF σ x y)) (M) (L) := by
  have hn := hC.1
  have h4 := hσ.2.1
  have h16 := pow4 h4
  have hp1 := Nat.two_pow_pos σ.1
  have hc := okp hσ
  have hn2 := hσ.1
  refine cfI_of (own := RX9) (l := [some (rf g 0), some (.int x), some (.int y)]) 0 rfl rfl rfl (Nat.le_of_ble_eq_true rfl) ?_
  refine tm_iload_1 1 rfl dX9_eventFinds_0 ?_
  by_cases hs1 : inN x 4 = true
  · obtain ⟨q1, hq1, rfl⟩ := inN_of hs1
    rcases (show q1 = 0 ∨ q1 = 1 ∨ q1 = 2 ∨ q1 = 3 by omega) with rfl | rfl | rfl | rfl
    · refine tm_swIn (off := 31) 32 (by decide) (by decide) (by decide +kernel) rfl dX9_eventFinds_1 ?_
      refine tm_aload_0 33 rfl dX9_eventFinds_32 ?_
      refine tm_getr fl_X9_12 rfl rfl 36 rfl dX9_eventFinds_33 ?_
      refine tm_iload_2 37 rfl dX9_eventFinds_36 ?_
      refine tm_callV_I (ci := 3) (c_X4_hasLot hC hσ) mv_X4_hasLot ml_X9_75 rfl rfl rfl rfl rfl (Nat.le_of_ble_eq_true rfl) 40 rfl dX9_eventFinds_37 ?_
      exact tm_zret (bI_01 _) rfl rfl rfl dX9_eventFinds_40
    · refine tm_swIn (off := 40) 41 (by decide) (by decide) (by decide +kernel) rfl dX9_eventFinds_1 ?_
      refine tm_aload_0 42 rfl dX9_eventFinds_41 ?_
      refine tm_getr fl_X9_12 rfl rfl 45 rfl dX9_eventFinds_42 ?_
      refine tm_iload_2 46 rfl dX9_eventFinds_45 ?_
      refine tm_callV_I (ci := 3) (c_X4_hasVoter hC hσ) mv_X4_hasVoter ml_X9_98 rfl rfl rfl rfl rfl (Nat.le_of_ble_eq_true rfl) 49 rfl dX9_eventFinds_46 ?_
      exact tm_zret (bI_01 _) rfl rfl rfl dX9_eventFinds_49
    · refine tm_swIn (off := 49) 50 (by decide) (by decide) (by decide +kernel) rfl dX9_eventFinds_1 ?_
      refine tm_iconst (1) rfl 51 rfl dX9_eventFinds_50 ?_
      exact tm_zret (by decide) rfl rfl rfl dX9_eventFinds_51
    · refine tm_swIn (off := 51) 52 (by decide) (by decide) (by decide +kernel) rfl dX9_eventFinds_1 ?_
      refine tm_iload_2 53 rfl dX9_eventFinds_52 ?_
      refine tm_if_lt 73 56 rfl rfl dX9_eventFinds_53 (fun h53 => ?_) (fun h53 => ?_)
      · refine tm_iconst (0) rfl 74 rfl dX9_eventFinds_73 ?_
        exact tm_zret (by decide) (by first | exact inN_h h53 | exact ev3_g h66 h4 (by omega) | exact ev3_f h53 h66 h4 (by omega)) rfl rfl dX9_eventFinds_74
      · refine tm_iload_2 57 rfl dX9_eventFinds_56 ?_
        refine tm_aload_0 58 rfl dX9_eventFinds_57 ?_
        refine tm_getr fl_X9_12 rfl rfl 61 rfl dX9_eventFinds_58 ?_
        refine tm_geti fl_X9_67 rfl rfl 64 rfl dX9_eventFinds_61 ?_
        rw [hn]
        refine tm_iconst (1) rfl 65 rfl dX9_eventFinds_64 ?_
        refine tm_isub 66 rfl dX9_eventFinds_65 ?_
        refine tm_icmp_ge 73 69 rfl rfl dX9_eventFinds_66 (fun h66 => ?_) (fun h66 => ?_)
        · refine tm_iconst (0) rfl 74 rfl dX9_eventFinds_73 ?_
          exact tm_zret (by decide) (by first | exact inN_h h53 | exact ev3_g h66 h4 (by omega) | exact ev3_f h53 h66 h4 (by omega)) rfl rfl dX9_eventFinds_74
        · refine tm_iconst (1) rfl 70 rfl dX9_eventFinds_69 ?_
          refine tm_goto 74 rfl dX9_eventFinds_70 ?_
          exact tm_zret (by decide) (by first | exact inN_h h53 | exact ev3_g h66 h4 (by omega) | exact ev3_f h53 h66 h4 (by omega)) rfl rfl dX9_eventFinds_74
  · refine tm_swOut 75 (sw_out hs1 rfl) rfl dX9_eventFinds_1 ?_
    refine tm_iconst (0) rfl 76 rfl dX9_eventFinds_75 ?_
    exact tm_zret (by decide) (by rw [evF_x hs1]; rfl) rfl rfl dX9_eventFinds_76

set_option maxRecDepth 100000 in
set_option maxHeartbeats 4000000 in
theorem c_X10_isThere {g : GC} {d : Nat} {M : MI} {L : ML} {σ : AS} (hM : hasM M σ) (hσ : okS σ) {x y : Int32} (hx : inN x 4 = true) : CfI g (d + 2) yX10_isThere cX10_isThere 3 .boolean [rf g 54, .int x, .int y] M L (bI (evF σ x y)) (M) (L) := by
  have hn := hM.1
  have h4 := hσ.2.1
  have h16 := pow4 h4
  have hp1 := Nat.two_pow_pos σ.1
  have hc := okp hσ
  have hn2 := hσ.1
  have hm := ev3_m (n := σ.1) (y := y) h4 (by omega)
  refine cfI_of (own := RX10) (l := [some (rf g 54), some (.int x), some (.int y)]) 0 rfl rfl rfl (Nat.le_of_ble_eq_true rfl) ?_
  refine tm_iload_1 1 rfl dX10_isThere_0 ?_
  refine tm_if_ne 12 4 rfl rfl dX10_isThere_1 (fun h1 => ?_) (fun h1 => ?_)
  · refine tm_iload_1 13 rfl dX10_isThere_12 ?_
    refine tm_iconst (1) rfl 14 rfl dX10_isThere_13 ?_
    refine tm_icmp_ne 25 17 rfl rfl dX10_isThere_14 (fun h14 => ?_) (fun h14 => ?_)
    · refine tm_iload_1 26 rfl dX10_isThere_25 ?_
      refine tm_iconst (2) rfl 27 rfl dX10_isThere_26 ?_
      refine tm_icmp_eq 48 30 rfl rfl dX10_isThere_27 (fun h27 => ?_) (fun h27 => ?_)
      · refine tm_iconst (1) rfl 49 rfl dX10_isThere_48 ?_
        refine tm_goto 53 rfl dX10_isThere_49 ?_
        exact tm_zret (by decide) (by first | (rw [h1, evF_0]) | (rw [h14, evF_1]) | (rw [h27, evF_2]; rfl) | (rw [show x = 3 from by rcases in4 hx with q | q | q | q; exact absurd q h1; exact absurd q h14; exact absurd q h27; exact q, evF_3, hm.1 h35 h45]; rfl) | (rw [show x = 3 from by rcases in4 hx with q | q | q | q; exact absurd q h1; exact absurd q h14; exact absurd q h27; exact q, evF_3, hm.2.2 h35 h45]; rfl) | (rw [show x = 3 from by rcases in4 hx with q | q | q | q; exact absurd q h1; exact absurd q h14; exact absurd q h27; exact q, evF_3, hm.2.1 h35]; rfl)) rfl rfl dX10_isThere_53
      · refine tm_aload_0 31 rfl dX10_isThere_30 ?_
        refine tm_iload_2 32 rfl dX10_isThere_31 ?_
        refine tm_callV_I (ci := 9) (c_X10_isVoter hn h4 (by have := hσ.1; omega)) mv_X10_isVoter ml_X10_75 rfl rfl rfl rfl rfl (Nat.le_of_ble_eq_true rfl) 35 rfl dX10_isThere_32 ?_
        refine tm_if_eqB 52 38 rfl rfl dX10_isThere_35 (fun h35 => ?_) (fun h35 => ?_)
        · refine tm_iconst (0) rfl 53 rfl dX10_isThere_52 ?_
          exact tm_zret (by decide) (by first | (rw [h1, evF_0]) | (rw [h14, evF_1]) | (rw [h27, evF_2]; rfl) | (rw [show x = 3 from by rcases in4 hx with q | q | q | q; exact absurd q h1; exact absurd q h14; exact absurd q h27; exact q, evF_3, hm.1 h35 h45]; rfl) | (rw [show x = 3 from by rcases in4 hx with q | q | q | q; exact absurd q h1; exact absurd q h14; exact absurd q h27; exact q, evF_3, hm.2.2 h35 h45]; rfl) | (rw [show x = 3 from by rcases in4 hx with q | q | q | q; exact absurd q h1; exact absurd q h14; exact absurd q h27; exact q, evF_3, hm.2.1 h35]; rfl)) rfl rfl dX10_isThere_53
        · refine tm_aload_0 39 rfl dX10_isThere_38 ?_
          refine tm_iload_2 40 rfl dX10_isThere_39 ?_
          refine tm_iconst (1) rfl 41 rfl dX10_isThere_40 ?_
          refine tm_iadd 42 rfl dX10_isThere_41 ?_
          refine tm_callV_I (ci := 9) (c_X10_isVoter hn h4 (by have := hσ.1; omega)) mv_X10_isVoter ml_X10_75 rfl rfl rfl rfl rfl (Nat.le_of_ble_eq_true rfl) 45 rfl dX10_isThere_42 ?_
          refine tm_if_eqB 52 48 rfl rfl dX10_isThere_45 (fun h45 => ?_) (fun h45 => ?_)
          · refine tm_iconst (0) rfl 53 rfl dX10_isThere_52 ?_
            exact tm_zret (by decide) (by first | (rw [h1, evF_0]) | (rw [h14, evF_1]) | (rw [h27, evF_2]; rfl) | (rw [show x = 3 from by rcases in4 hx with q | q | q | q; exact absurd q h1; exact absurd q h14; exact absurd q h27; exact q, evF_3, hm.1 h35 h45]; rfl) | (rw [show x = 3 from by rcases in4 hx with q | q | q | q; exact absurd q h1; exact absurd q h14; exact absurd q h27; exact q, evF_3, hm.2.2 h35 h45]; rfl) | (rw [show x = 3 from by rcases in4 hx with q | q | q | q; exact absurd q h1; exact absurd q h14; exact absurd q h27; exact q, evF_3, hm.2.1 h35]; rfl)) rfl rfl dX10_isThere_53
          · refine tm_iconst (1) rfl 49 rfl dX10_isThere_48 ?_
            refine tm_goto 53 rfl dX10_isThere_49 ?_
            exact tm_zret (by decide) (by first | (rw [h1, evF_0]) | (rw [h14, evF_1]) | (rw [h27, evF_2]; rfl) | (rw [show x = 3 from by rcases in4 hx with q | q | q | q; exact absurd q h1; exact absurd q h14; exact absurd q h27; exact q, evF_3, hm.1 h35 h45]; rfl) | (rw [show x = 3 from by rcases in4 hx with q | q | q | q; exact absurd q h1; exact absurd q h14; exact absurd q h27; exact q, evF_3, hm.2.2 h35 h45]; rfl) | (rw [show x = 3 from by rcases in4 hx with q | q | q | q; exact absurd q h1; exact absurd q h14; exact absurd q h27; exact q, evF_3, hm.2.1 h35]; rfl)) rfl rfl dX10_isThere_53
    · refine tm_aload_0 18 rfl dX10_isThere_17 ?_
      refine tm_iload_2 19 rfl dX10_isThere_18 ?_
      refine tm_callV_I (ci := 9) (c_X10_isVoter hn h4 (by have := hσ.1; omega)) mv_X10_isVoter ml_X10_75 rfl rfl rfl rfl rfl (Nat.le_of_ble_eq_true rfl) 22 rfl dX10_isThere_19 ?_
      refine tm_goto 53 rfl dX10_isThere_22 ?_
      exact tm_zret (bI_01 _) (by first | (rw [h1, evF_0]) | (rw [h14, evF_1]) | (rw [h27, evF_2]; rfl) | (rw [show x = 3 from by rcases in4 hx with q | q | q | q; exact absurd q h1; exact absurd q h14; exact absurd q h27; exact q, evF_3, hm.1 h35 h45]; rfl) | (rw [show x = 3 from by rcases in4 hx with q | q | q | q; exact absurd q h1; exact absurd q h14; exact absurd q h27; exact q, evF_3, hm.2.2 h35 h45]; rfl) | (rw [show x = 3 from by rcases in4 hx with q | q | q | q; exact absurd q h1; exact absurd q h14; exact absurd q h27; exact q, evF_3, hm.2.1 h35]; rfl)) rfl rfl dX10_isThere_53
  · refine tm_aload_0 5 rfl dX10_isThere_4 ?_
    refine tm_iload_2 6 rfl dX10_isThere_5 ?_
    refine tm_callV_I (ci := 9) (c_X10_isLot hn h4) mv_X10_isLot ml_X10_68 rfl rfl rfl rfl rfl (Nat.le_of_ble_eq_true rfl) 9 rfl dX10_isThere_6 ?_
    refine tm_goto 53 rfl dX10_isThere_9 ?_
    exact tm_zret (bI_01 _) (by first | (rw [h1, evF_0]) | (rw [h14, evF_1]) | (rw [h27, evF_2]; rfl) | (rw [show x = 3 from by rcases in4 hx with q | q | q | q; exact absurd q h1; exact absurd q h14; exact absurd q h27; exact q, evF_3, hm.1 h35 h45]; rfl) | (rw [show x = 3 from by rcases in4 hx with q | q | q | q; exact absurd q h1; exact absurd q h14; exact absurd q h27; exact q, evF_3, hm.2.2 h35 h45]; rfl) | (rw [show x = 3 from by rcases in4 hx with q | q | q | q; exact absurd q h1; exact absurd q h14; exact absurd q h27; exact q, evF_3, hm.2.1 h35]; rfl)) rfl rfl dX10_isThere_53

def evK (σ : AS) (s : Nat) (x y : Int32) : Nat := if x = -1 then 0 else if evF σ x y = false then 1 else if x = 2 ∧ ¬ y = 0 then 2 else if s < 8 then 3 else 4
theorem evK_0 {σ : AS} {s : Nat} {x y : Int32} (h : x = -1) : evK σ s x y = 0 := if_pos h
theorem evK_1 {σ : AS} {s : Nat} {x y : Int32} (h : ¬ x = -1) (h1 : evF σ x y = false) : evK σ s x y = 1 := by unfold evK; rw [if_neg h, if_pos h1]
theorem evK_2 {σ : AS} {s : Nat} {x y : Int32} (h : x = 2) (h1 : ¬ y = 0) : evK σ s x y = 2 := by subst h; unfold evK; rw [if_neg (by decide), if_neg (by rw [evF_2]; decide), if_pos ⟨rfl, h1⟩]
theorem evK_3 {σ : AS} {s : Nat} {x y : Int32} (h : ¬ x = -1) (h1 : evF σ x y = true) (h2 : x = 2 → y = 0) (h3 : s < 8) : evK σ s x y = 3 := by unfold evK; rw [if_neg h, if_neg (by rw [h1]; decide), if_neg (fun q => q.2 (h2 q.1)), if_pos h3]
theorem evK_4 {σ : AS} {s : Nat} {x y : Int32} (h : ¬ x = -1) (h1 : evF σ x y = true) (h2 : x = 2 → y = 0) (h3 : ¬ s < 8) : evK σ s x y = 4 := by unfold evK; rw [if_neg h, if_neg (by rw [h1]; decide), if_neg (fun q => q.2 (h2 q.1)), if_neg h3]
theorem evT_2 {σ : AS} {x y : Int32} (h : x = 2) : evF σ x y = true := by rw [h]; rfl
set_option maxRecDepth 100000 in
set_option maxHeartbeats 4000000 in
theorem c_X9_event {g : GC} {d : Nat} {M : MI} {L : ML} {σ : AS} (hC : hasC M σ) (hσ : okS σ) {s : Nat} (hs : M 6 2 = nI s) (hsn : s ≤ 8) {x y : Int32} : CfI g (d + 3) yX9_event cX9_event 3 .int [rf g 0, .int x, .int y] M L (adA s (evK σ s x y)) (adC M 6 s x y (evK σ s x y)) (L) := by
  have hn := hC.1
  have h4 := hσ.2.1
  have h16 := pow4 h4
  have hp1 := Nat.two_pow_pos σ.1
  have hc := okp hσ
  refine cfI_of (own := RX9) (l := [some (rf g 0), some (.int x), some (.int y)]) 0 rfl rfl rfl (Nat.le_of_ble_eq_true rfl) ?_
  refine tm_iload_1 1 rfl dX9_event_0 ?_
  refine tm_iconst (-1) rfl 2 rfl dX9_event_1 ?_
  refine tm_icmp_ne 18 5 rfl rfl dX9_event_2 (fun h2 => ?_) (fun h2 => ?_)
  · refine tm_iload_1 19 rfl dX9_event_18 ?_
    refine tm_iconst (2) rfl 20 rfl dX9_event_19 ?_
    refine tm_icmp_ne 30 23 rfl rfl dX9_event_20 (fun h20 => ?_) (fun h20 => ?_)
    · refine tm_aload_0 31 rfl dX9_event_30 ?_
      refine tm_iload_1 32 rfl dX9_event_31 ?_
      refine tm_iload_2 33 rfl dX9_event_32 ?_
      refine tm_callV_I (ci := 8) (c_X9_eventFinds hC hσ) mv_X9_eventFinds ml_X9_279 rfl rfl rfl rfl rfl (Nat.le_of_ble_eq_true rfl) 36 rfl dX9_event_33 ?_
      refine tm_if_neB 41 39 rfl rfl dX9_event_36 (fun h36 => ?_) (fun h36 => ?_)
      · refine tm_aload_0 42 rfl dX9_event_41 ?_
        refine tm_getr fl_X9_12 rfl rfl 45 rfl dX9_event_42 ?_
        refine tm_getr fl_X9_276 rfl rfl 48 rfl dX9_event_45 ?_
        refine tm_iload_1 49 rfl dX9_event_48 ?_
        refine tm_iload_2 50 rfl dX9_event_49 ?_
        refine tm_callV_I (ci := 1) (c_X2_append (r := 6) (n := 8) ⟨rfl, rfl, rfl⟩ (by decide) hs hsn) mv_X2_append ml_X9_282 rfl rfl rfl rfl rfl (Nat.le_of_ble_eq_true rfl) 53 rfl dX9_event_50 ?_
        refine tm_if_eqB 69 56 rfl rfl dX9_event_53 (fun h53 => ?_) (fun h53 => ?_)
        · refine tm_bipush (-4) (by decide) 71 rfl dX9_event_69 ?_
          exact tm_iret (by first | (rw [evK_3 h2 h36 (fun q => absurd q h20) (of_decide_eq_true h53)]; rfl) | (rw [evK_3 h2 (evT_2 h20) (fun _ => h24) (of_decide_eq_true h53)]; rfl) | (rw [evK_4 h2 h36 (fun q => absurd q h20) (of_decide_eq_false h53)]; first | rfl | exact if_neg (of_decide_eq_false h53)) | (rw [evK_4 h2 (evT_2 h20) (fun _ => h24) (of_decide_eq_false h53)]; first | rfl | exact if_neg (of_decide_eq_false h53))) (by first | (rw [evK_3 h2 h36 (fun q => absurd q h20) (of_decide_eq_true h53)]; rfl) | (rw [evK_3 h2 (evT_2 h20) (fun _ => h24) (of_decide_eq_true h53)]; rfl) | (rw [evK_4 h2 h36 (fun q => absurd q h20) (of_decide_eq_false h53)]; first | rfl | exact if_neg (of_decide_eq_false h53)) | (rw [evK_4 h2 (evT_2 h20) (fun _ => h24) (of_decide_eq_false h53)]; first | rfl | exact if_neg (of_decide_eq_false h53))) rfl dX9_event_71
        · rw [if_pos (of_decide_eq_true h53)]
          refine tm_aload_0 57 rfl dX9_event_56 ?_
          refine tm_getr fl_X9_12 rfl rfl 60 rfl dX9_event_57 ?_
          refine tm_getr fl_X9_276 rfl rfl 63 rfl dX9_event_60 ?_
          refine tm_geti fl_X9_262 rfl rfl 66 rfl dX9_event_63 ?_
          rw [s1_eq]
          refine tm_goto 71 rfl dX9_event_66 ?_
          exact tm_iret (by first | (rw [evK_3 h2 h36 (fun q => absurd q h20) (of_decide_eq_true h53)]; rfl) | (rw [evK_3 h2 (evT_2 h20) (fun _ => h24) (of_decide_eq_true h53)]; rfl) | (rw [evK_4 h2 h36 (fun q => absurd q h20) (of_decide_eq_false h53)]; first | rfl | exact if_neg (of_decide_eq_false h53)) | (rw [evK_4 h2 (evT_2 h20) (fun _ => h24) (of_decide_eq_false h53)]; first | rfl | exact if_neg (of_decide_eq_false h53))) (by first | (rw [evK_3 h2 h36 (fun q => absurd q h20) (of_decide_eq_true h53)]; rfl) | (rw [evK_3 h2 (evT_2 h20) (fun _ => h24) (of_decide_eq_true h53)]; rfl) | (rw [evK_4 h2 h36 (fun q => absurd q h20) (of_decide_eq_false h53)]; first | rfl | exact if_neg (of_decide_eq_false h53)) | (rw [evK_4 h2 (evT_2 h20) (fun _ => h24) (of_decide_eq_false h53)]; first | rfl | exact if_neg (of_decide_eq_false h53))) rfl dX9_event_71
      · refine tm_iconst (-1) rfl 40 rfl dX9_event_39 ?_
        exact tm_iret (by rw [evK_1 h2 h36]; rfl) (by rw [evK_1 h2 h36]; rfl) rfl dX9_event_40
    · refine tm_iload_2 24 rfl dX9_event_23 ?_
      refine tm_if_eq 41 27 rfl rfl dX9_event_24 (fun h24 => ?_) (fun h24 => ?_)
      · refine tm_aload_0 42 rfl dX9_event_41 ?_
        refine tm_getr fl_X9_12 rfl rfl 45 rfl dX9_event_42 ?_
        refine tm_getr fl_X9_276 rfl rfl 48 rfl dX9_event_45 ?_
        refine tm_iload_1 49 rfl dX9_event_48 ?_
        refine tm_iload_2 50 rfl dX9_event_49 ?_
        refine tm_callV_I (ci := 1) (c_X2_append (r := 6) (n := 8) ⟨rfl, rfl, rfl⟩ (by decide) hs hsn) mv_X2_append ml_X9_282 rfl rfl rfl rfl rfl (Nat.le_of_ble_eq_true rfl) 53 rfl dX9_event_50 ?_
        refine tm_if_eqB 69 56 rfl rfl dX9_event_53 (fun h53 => ?_) (fun h53 => ?_)
        · refine tm_bipush (-4) (by decide) 71 rfl dX9_event_69 ?_
          exact tm_iret (by first | (rw [evK_3 h2 h36 (fun q => absurd q h20) (of_decide_eq_true h53)]; rfl) | (rw [evK_3 h2 (evT_2 h20) (fun _ => h24) (of_decide_eq_true h53)]; rfl) | (rw [evK_4 h2 h36 (fun q => absurd q h20) (of_decide_eq_false h53)]; first | rfl | exact if_neg (of_decide_eq_false h53)) | (rw [evK_4 h2 (evT_2 h20) (fun _ => h24) (of_decide_eq_false h53)]; first | rfl | exact if_neg (of_decide_eq_false h53))) (by first | (rw [evK_3 h2 h36 (fun q => absurd q h20) (of_decide_eq_true h53)]; rfl) | (rw [evK_3 h2 (evT_2 h20) (fun _ => h24) (of_decide_eq_true h53)]; rfl) | (rw [evK_4 h2 h36 (fun q => absurd q h20) (of_decide_eq_false h53)]; first | rfl | exact if_neg (of_decide_eq_false h53)) | (rw [evK_4 h2 (evT_2 h20) (fun _ => h24) (of_decide_eq_false h53)]; first | rfl | exact if_neg (of_decide_eq_false h53))) rfl dX9_event_71
        · rw [if_pos (of_decide_eq_true h53)]
          refine tm_aload_0 57 rfl dX9_event_56 ?_
          refine tm_getr fl_X9_12 rfl rfl 60 rfl dX9_event_57 ?_
          refine tm_getr fl_X9_276 rfl rfl 63 rfl dX9_event_60 ?_
          refine tm_geti fl_X9_262 rfl rfl 66 rfl dX9_event_63 ?_
          rw [s1_eq]
          refine tm_goto 71 rfl dX9_event_66 ?_
          exact tm_iret (by first | (rw [evK_3 h2 h36 (fun q => absurd q h20) (of_decide_eq_true h53)]; rfl) | (rw [evK_3 h2 (evT_2 h20) (fun _ => h24) (of_decide_eq_true h53)]; rfl) | (rw [evK_4 h2 h36 (fun q => absurd q h20) (of_decide_eq_false h53)]; first | rfl | exact if_neg (of_decide_eq_false h53)) | (rw [evK_4 h2 (evT_2 h20) (fun _ => h24) (of_decide_eq_false h53)]; first | rfl | exact if_neg (of_decide_eq_false h53))) (by first | (rw [evK_3 h2 h36 (fun q => absurd q h20) (of_decide_eq_true h53)]; rfl) | (rw [evK_3 h2 (evT_2 h20) (fun _ => h24) (of_decide_eq_true h53)]; rfl) | (rw [evK_4 h2 h36 (fun q => absurd q h20) (of_decide_eq_false h53)]; first | rfl | exact if_neg (of_decide_eq_false h53)) | (rw [evK_4 h2 (evT_2 h20) (fun _ => h24) (of_decide_eq_false h53)]; first | rfl | exact if_neg (of_decide_eq_false h53))) rfl dX9_event_71
      · refine tm_bipush (-2) (by decide) 29 rfl dX9_event_27 ?_
        exact tm_iret (by rw [evK_2 h20 h24]; rfl) (by rw [evK_2 h20 h24]; rfl) rfl dX9_event_29
  · refine tm_aload_0 6 rfl dX9_event_5 ?_
    refine tm_getr fl_X9_12 rfl rfl 9 rfl dX9_event_6 ?_
    refine tm_getr fl_X9_276 rfl rfl 12 rfl dX9_event_9 ?_
    refine tm_iconst (0) rfl 13 rfl dX9_event_12 ?_
    refine tm_puti fl_X9_262 fw_1_2 rfl rfl rfl rfl 16 rfl dX9_event_13 ?_
    refine tm_iconst (0) rfl 17 rfl dX9_event_16 ?_
    exact tm_iret (by rw [evK_0 h2]; rfl) (by rw [evK_0 h2]; rfl) rfl dX9_event_17

set_option maxRecDepth 100000 in
set_option maxHeartbeats 4000000 in
theorem c_X10_event {g : GC} {d : Nat} {M : MI} {L : ML} {σ : AS} (hM : hasM M σ) (hσ : okS σ) {s : Nat} (hs : M 55 21 = nI s) (hsn : s ≤ 8) {x y : Int32} : CfI g (d + 3) yX10_event cX10_event 4 .int [rf g 54, .int x, .int y] M L (adA s (evK σ s x y)) (adM M 21 8 s x y (evK σ s x y)) (L) := by
  have hn := hM.1
  have h4 := hσ.2.1
  have h16 := pow4 h4
  have hp1 := Nat.two_pow_pos σ.1
  have hc := okp hσ
  refine cfI_of (own := RX10) (l := [some (rf g 54), some (.int x), some (.int y), none]) 1 rfl rfl rfl (Nat.le_of_ble_eq_true rfl) ?_
  refine tm_iload_1 1 rfl dX10_event_0 ?_
  refine tm_iconst (-1) rfl 2 rfl dX10_event_1 ?_
  refine tm_icmp_ne 29 5 rfl rfl dX10_event_2 (fun h2 => ?_) (fun h2 => ?_)
  · refine tm_iload_1 30 rfl dX10_event_29 ?_
    refine tm_i2l 31 rfl dX10_event_30 ?_
    refine tm_lconst 0 rfl 32 rfl dX10_event_31 ?_
    refine tm_ldc2 kl_X10_174 35 rfl dX10_event_32 ?_
    refine tm_callS_I (c_X10_in) ms_X10_in ml_X10_60 rfl rfl (Nat.le_of_ble_eq_true rfl) 38 rfl dX10_event_35 ?_
    rw [btw_in (N := 4) rfl]
    refine tm_if_eqB 50 41 rfl rfl dX10_event_38 (fun h38 => ?_) (fun h38 => ?_)
    · refine tm_iconst (-1) rfl 51 rfl dX10_event_50 ?_
      exact tm_iret (by first | (rw [evK_1 h2 (evF_x (by rw [h38]; decide))]; rfl) | (rw [evK_1 h2 h47]; rfl)) (by first | (rw [evK_1 h2 (evF_x (by rw [h38]; decide))]; rfl) | (rw [evK_1 h2 h47]; rfl)) rfl dX10_event_51
    · refine tm_aload_0 42 rfl dX10_event_41 ?_
      refine tm_iload_1 43 rfl dX10_event_42 ?_
      refine tm_iload_2 44 rfl dX10_event_43 ?_
      refine tm_callV_I (ci := 9) (c_X10_isThere hM hσ h38) mv_X10_isThere ml_X10_176 rfl rfl rfl rfl rfl (Nat.le_of_ble_eq_true rfl) 47 rfl dX10_event_44 ?_
      refine tm_if_neB 52 50 rfl rfl dX10_event_47 (fun h47 => ?_) (fun h47 => ?_)
      · refine tm_iload_1 53 rfl dX10_event_52 ?_
        refine tm_iconst (2) rfl 54 rfl dX10_event_53 ?_
        refine tm_icmp_ne 64 57 rfl rfl dX10_event_54 (fun h54 => ?_) (fun h54 => ?_)
        · refine tm_aload_0 65 rfl dX10_event_64 ?_
          refine tm_getr fl_X10_11 rfl rfl 68 rfl dX10_event_65 ?_
          refine tm_bipush (21) (by decide) 70 rfl dX10_event_68 ?_
          refine tm_ald rfl (ix := 21) ⟨by decide, by decide, by decide⟩ 71 rfl dX10_event_70 ?_
          rw [hs]
          refine tm_bipush (8) (by decide) 73 rfl dX10_event_71 ?_
          refine tm_icmp_ne 79 76 rfl rfl dX10_event_73 (fun h73 => ?_) (fun h73 => ?_)
          · refine tm_aload_0 80 rfl dX10_event_79 ?_
            refine tm_getr fl_X10_11 rfl rfl 83 rfl dX10_event_80 ?_
            refine tm_bipush (22) (by decide) 85 rfl dX10_event_83 ?_
            refine tm_aload_0 86 rfl dX10_event_85 ?_
            refine tm_getr fl_X10_11 rfl rfl 89 rfl dX10_event_86 ?_
            refine tm_bipush (21) (by decide) 91 rfl dX10_event_89 ?_
            refine tm_ald rfl (ix := 21) ⟨by decide, by decide, by decide⟩ 92 rfl dX10_event_91 ?_
            rw [hs, show (22 : Int32) = nI 22 from rfl]
            refine tm_iadd 93 rfl dX10_event_92 ?_
            rw [nI_add]
            refine tm_iload_1 94 rfl dX10_event_93 ?_
            refine tm_ast rfl (ix := 22 + s) (ix_nI (by have := ne_n (by decide) hsn h73; omega) (by decide)) 95 rfl dX10_event_94 ?_
            refine tm_aload_0 96 rfl dX10_event_95 ?_
            refine tm_getr fl_X10_11 rfl rfl 99 rfl dX10_event_96 ?_
            refine tm_bipush (30) (by decide) 101 rfl dX10_event_99 ?_
            refine tm_aload_0 102 rfl dX10_event_101 ?_
            refine tm_getr fl_X10_11 rfl rfl 105 rfl dX10_event_102 ?_
            refine tm_bipush (21) (by decide) 107 rfl dX10_event_105 ?_
            refine tm_ald rfl (ix := 21) ⟨by decide, by decide, by decide⟩ 108 rfl dX10_event_107 ?_
            rw [s1_nk (by omega), hs, show (30 : Int32) = nI 30 from rfl]
            refine tm_iadd 109 rfl dX10_event_108 ?_
            rw [nI_add]
            refine tm_iload_2 110 rfl dX10_event_109 ?_
            refine tm_ast rfl (ix := 30 + s) (ix_nI (by have := ne_n (by decide) hsn h73; omega) (by decide)) 111 rfl dX10_event_110 ?_
            refine tm_aload_0 112 rfl dX10_event_111 ?_
            refine tm_getr fl_X10_11 rfl rfl 115 rfl dX10_event_112 ?_
            refine tm_bipush (21) (by decide) 117 rfl dX10_event_115 ?_
            refine tm_dup2 rfl rfl 118 rfl dX10_event_117 ?_
            refine tm_ald rfl (ix := 21) ⟨by decide, by decide, by decide⟩ 119 rfl dX10_event_118 ?_
            rw [s1_nk (by omega), s1_nk (by omega), hs]
            refine tm_iconst (1) rfl 120 rfl dX10_event_119 ?_
            refine tm_iadd 121 rfl dX10_event_120 ?_
            rw [nI_1]
            refine tm_ast rfl (ix := 21) ⟨by decide, by decide, by decide⟩ 122 rfl dX10_event_121 ?_
            refine tm_aload_0 123 rfl dX10_event_122 ?_
            refine tm_getr fl_X10_11 rfl rfl 126 rfl dX10_event_123 ?_
            refine tm_bipush (21) (by decide) 128 rfl dX10_event_126 ?_
            refine tm_ald rfl (ix := 21) ⟨by decide, by decide, by decide⟩ 129 rfl dX10_event_128 ?_
            rw [s1_eq]
            exact tm_iret (by first | (rw [evK_3 h2 h47 (fun q => absurd q h54) (ne_n (n := 8) (by decide) hsn h73)]; rfl) | (rw [evK_3 h2 h47 (fun _ => h58) (ne_n (n := 8) (by decide) hsn h73)]; rfl)) (by first | (rw [evK_3 h2 h47 (fun q => absurd q h54) (ne_n (n := 8) (by decide) hsn h73)]; rfl) | (rw [evK_3 h2 h47 (fun _ => h58) (ne_n (n := 8) (by decide) hsn h73)]; rfl)) rfl dX10_event_129
          · refine tm_bipush (-4) (by decide) 78 rfl dX10_event_76 ?_
            exact tm_iret (by first | (rw [evK_4 h2 h47 (fun q => absurd q h54) (eq_n (n := 8) (by decide) hsn h73)]; rfl) | (rw [evK_4 h2 h47 (fun _ => h58) (eq_n (n := 8) (by decide) hsn h73)]; rfl)) (by first | (rw [evK_4 h2 h47 (fun q => absurd q h54) (eq_n (n := 8) (by decide) hsn h73)]; rfl) | (rw [evK_4 h2 h47 (fun _ => h58) (eq_n (n := 8) (by decide) hsn h73)]; rfl)) rfl dX10_event_78
        · refine tm_iload_2 58 rfl dX10_event_57 ?_
          refine tm_if_eq 64 61 rfl rfl dX10_event_58 (fun h58 => ?_) (fun h58 => ?_)
          · refine tm_aload_0 65 rfl dX10_event_64 ?_
            refine tm_getr fl_X10_11 rfl rfl 68 rfl dX10_event_65 ?_
            refine tm_bipush (21) (by decide) 70 rfl dX10_event_68 ?_
            refine tm_ald rfl (ix := 21) ⟨by decide, by decide, by decide⟩ 71 rfl dX10_event_70 ?_
            rw [hs]
            refine tm_bipush (8) (by decide) 73 rfl dX10_event_71 ?_
            refine tm_icmp_ne 79 76 rfl rfl dX10_event_73 (fun h73 => ?_) (fun h73 => ?_)
            · refine tm_aload_0 80 rfl dX10_event_79 ?_
              refine tm_getr fl_X10_11 rfl rfl 83 rfl dX10_event_80 ?_
              refine tm_bipush (22) (by decide) 85 rfl dX10_event_83 ?_
              refine tm_aload_0 86 rfl dX10_event_85 ?_
              refine tm_getr fl_X10_11 rfl rfl 89 rfl dX10_event_86 ?_
              refine tm_bipush (21) (by decide) 91 rfl dX10_event_89 ?_
              refine tm_ald rfl (ix := 21) ⟨by decide, by decide, by decide⟩ 92 rfl dX10_event_91 ?_
              rw [hs, show (22 : Int32) = nI 22 from rfl]
              refine tm_iadd 93 rfl dX10_event_92 ?_
              rw [nI_add]
              refine tm_iload_1 94 rfl dX10_event_93 ?_
              refine tm_ast rfl (ix := 22 + s) (ix_nI (by have := ne_n (by decide) hsn h73; omega) (by decide)) 95 rfl dX10_event_94 ?_
              refine tm_aload_0 96 rfl dX10_event_95 ?_
              refine tm_getr fl_X10_11 rfl rfl 99 rfl dX10_event_96 ?_
              refine tm_bipush (30) (by decide) 101 rfl dX10_event_99 ?_
              refine tm_aload_0 102 rfl dX10_event_101 ?_
              refine tm_getr fl_X10_11 rfl rfl 105 rfl dX10_event_102 ?_
              refine tm_bipush (21) (by decide) 107 rfl dX10_event_105 ?_
              refine tm_ald rfl (ix := 21) ⟨by decide, by decide, by decide⟩ 108 rfl dX10_event_107 ?_
              rw [s1_nk (by omega), hs, show (30 : Int32) = nI 30 from rfl]
              refine tm_iadd 109 rfl dX10_event_108 ?_
              rw [nI_add]
              refine tm_iload_2 110 rfl dX10_event_109 ?_
              refine tm_ast rfl (ix := 30 + s) (ix_nI (by have := ne_n (by decide) hsn h73; omega) (by decide)) 111 rfl dX10_event_110 ?_
              refine tm_aload_0 112 rfl dX10_event_111 ?_
              refine tm_getr fl_X10_11 rfl rfl 115 rfl dX10_event_112 ?_
              refine tm_bipush (21) (by decide) 117 rfl dX10_event_115 ?_
              refine tm_dup2 rfl rfl 118 rfl dX10_event_117 ?_
              refine tm_ald rfl (ix := 21) ⟨by decide, by decide, by decide⟩ 119 rfl dX10_event_118 ?_
              rw [s1_nk (by omega), s1_nk (by omega), hs]
              refine tm_iconst (1) rfl 120 rfl dX10_event_119 ?_
              refine tm_iadd 121 rfl dX10_event_120 ?_
              rw [nI_1]
              refine tm_ast rfl (ix := 21) ⟨by decide, by decide, by decide⟩ 122 rfl dX10_event_121 ?_
              refine tm_aload_0 123 rfl dX10_event_122 ?_
              refine tm_getr fl_X10_11 rfl rfl 126 rfl dX10_event_123 ?_
              refine tm_bipush (21) (by decide) 128 rfl dX10_event_126 ?_
              refine tm_ald rfl (ix := 21) ⟨by decide, by decide, by decide⟩ 129 rfl dX10_event_128 ?_
              rw [s1_eq]
              exact tm_iret (by first | (rw [evK_3 h2 h47 (fun q => absurd q h54) (ne_n (n := 8) (by decide) hsn h73)]; rfl) | (rw [evK_3 h2 h47 (fun _ => h58) (ne_n (n := 8) (by decide) hsn h73)]; rfl)) (by first | (rw [evK_3 h2 h47 (fun q => absurd q h54) (ne_n (n := 8) (by decide) hsn h73)]; rfl) | (rw [evK_3 h2 h47 (fun _ => h58) (ne_n (n := 8) (by decide) hsn h73)]; rfl)) rfl dX10_event_129
            · refine tm_bipush (-4) (by decide) 78 rfl dX10_event_76 ?_
              exact tm_iret (by first | (rw [evK_4 h2 h47 (fun q => absurd q h54) (eq_n (n := 8) (by decide) hsn h73)]; rfl) | (rw [evK_4 h2 h47 (fun _ => h58) (eq_n (n := 8) (by decide) hsn h73)]; rfl)) (by first | (rw [evK_4 h2 h47 (fun q => absurd q h54) (eq_n (n := 8) (by decide) hsn h73)]; rfl) | (rw [evK_4 h2 h47 (fun _ => h58) (eq_n (n := 8) (by decide) hsn h73)]; rfl)) rfl dX10_event_78
          · refine tm_bipush (-2) (by decide) 63 rfl dX10_event_61 ?_
            exact tm_iret (by rw [evK_2 h54 h58]; rfl) (by rw [evK_2 h54 h58]; rfl) rfl dX10_event_63
      · refine tm_iconst (-1) rfl 51 rfl dX10_event_50 ?_
        exact tm_iret (by first | (rw [evK_1 h2 (evF_x (by rw [h38]; decide))]; rfl) | (rw [evK_1 h2 h47]; rfl)) (by first | (rw [evK_1 h2 (evF_x (by rw [h38]; decide))]; rfl) | (rw [evK_1 h2 h47]; rfl)) rfl dX10_event_51
  · refine tm_bipush (21) (by decide) 7 rfl dX10_event_5 ?_
    refine tm_istore_3 (by decide) rfl 8 rfl dX10_event_7 ?_
    refine tm_mem (zGk_0 M 21) rfl ?_
    refine tm_loop (N := 17) (fun k => Tm g (d + 3) RX10 cX10_event 4 (some .int) (QI g (adA s (evK σ s x y)) (adM M 21 8 s x y (evK σ s x y)) (L)) 8 [some (rf g 54), some (.int x), some (.int y), some (.int (nI (21 + k)))] [] (zGk M 21 k) (L)) (fun k hk ih => ?_) ?_
    · refine tm_iload_3 9 rfl dX10_event_8 ?_
      refine tm_bipush (38) (by decide) 11 rfl dX10_event_9 ?_
      refine tm_icmp_ge_f 14 (nI_ge (show 21 + k < 38 by omega) (by decide)) rfl rfl dX10_event_11 ?_
      refine tm_aload_0 15 rfl dX10_event_14 ?_
      refine tm_getr fl_X10_11 rfl rfl 18 rfl dX10_event_15 ?_
      refine tm_iload_3 19 rfl dX10_event_18 ?_
      refine tm_iconst (0) rfl 20 rfl dX10_event_19 ?_
      refine tm_ast rfl (ix := 21 + k) (ix_nI (by omega) (by decide)) 21 rfl dX10_event_20 ?_
      refine tm_iinc_3 (nI (21 + (k + 1))) (iinc1 (21 + k)) (by decide) rfl 24 rfl dX10_event_21 ?_
      refine tm_goto 8 rfl dX10_event_24 ?_
      rw [zGk_s]
      exact ih
    · refine tm_iload_3 9 rfl dX10_event_8 ?_
      refine tm_bipush (38) (by decide) 11 rfl dX10_event_9 ?_
      refine tm_icmp_ge_t 27 (nI_le (Nat.le_refl 38) (by decide)) rfl dX10_event_11 ?_
      refine tm_iconst (0) rfl 28 rfl dX10_event_27 ?_
      exact tm_iret (by rw [evK_0 h2]; rfl) (by rw [evK_0 h2]; rfl) rfl dX10_event_28

/-- the function behind the first so many events -/
def evC (σ : AS) (f h : Nat → Int32) : Nat → Nat
  | 0 => σ.2.1
  | k + 1 => if evF σ (f k) (h k) = true then evS σ.1 (evC σ f h k) (f k) (h k) else evC σ f h k
theorem evS_0 {n c k : Nat} (hk : k < 2 ^ 31) : evS n c 0 (nI k) = c ^^^ 2 ^ k := by show c ^^^ 2 ^ iN (nI k) = _; rw [iN_nI hk]
theorem evS_1 {n c k : Nat} (hk : k < 2 ^ 31) : evS n c 1 (nI k) = tnd n c k := by show tnd n c (iN (nI k)) = _; rw [iN_nI hk]
theorem evS_2 {n c : Nat} {y : Int32} : evS n c 2 y = dlN n c := rfl
theorem evS_3 {n c k : Nat} (hk : k < 2 ^ 31) : evS n c 3 (nI k) = chN n c k (k + 1) := by show chN n c (iN (nI k)) (iN (nI k) + 1) = _; rw [iN_nI hk]
theorem evS_lt {σ : AS} {c : Nat} {x y : Int32} (h4 : σ.1 ≤ 4) (hc : c < 2 ^ 2 ^ σ.1) (hx : inN x 4 = true) (h : evF σ x y = true) : evS σ.1 c x y < 2 ^ 2 ^ σ.1 := by
  have h16 := pow4 h4
  rcases in4 hx with rfl | rfl | rfl | rfl
  · obtain ⟨k, hk, rfl⟩ := inN_of h
    rw [evS_0 (by omega)]
    exact Nat.xor_lt_two_pow hc (Nat.pow_lt_pow_right (by omega) hk)
  · exact tnd_lt _ _ _
  · exact dlN_lt _ _
  · exact chN_lt _ _ _ _
theorem evC_lt {σ : AS} (hσ : okS σ) {f h : Nat → Int32} : ∀ {k : Nat}, (∀ j, j < k → inN (f j) 4 = true) → evC σ f h k < 2 ^ 2 ^ σ.1
  | 0, _ => hσ.2.2.1
  | k + 1, hf => by
    have ih := evC_lt hσ (f := f) (h := h) (k := k) (fun j hj => hf j (by omega))
    unfold evC
    split
    · next q => exact evS_lt hσ.2.1 ih (hf k (by omega)) q
    · exact ih
theorem evC_y {σ : AS} {f h : Nat → Int32} {k : Nat} (q : evF σ (f k) (h k) = true) : evC σ f h (k + 1) = evS σ.1 (evC σ f h k) (f k) (h k) := if_pos q
theorem evC_n {σ : AS} {f h : Nat → Int32} {k : Nat} (q : evF σ (f k) (h k) = false) : evC σ f h (k + 1) = evC σ f h k := if_neg (by rw [q]; decide)
set_option maxRecDepth 100000 in
set_option maxHeartbeats 4000000 in
theorem c_X9_codeBehind_0 {g : GC} {d : Nat} {M : MI} {L : ML} {σ : AS} (hC : hasC M σ) (hσ : okS σ) {c2 k : Nat} (hc2 : c2 < 2 ^ 2 ^ σ.1) (hk : k < 2 ^ σ.1) : CfI g (d + 3) yX9_codeBehind cX9_codeBehind 4 .int [rf g 0, .int (nI c2), .int 0, .int (nI k)] M L (nI (evS σ.1 c2 0 (nI k))) (M) (L) := by
  have hn := hC.1
  have h4 := hσ.2.1
  have h16 := pow4 h4
  have hp1 := Nat.two_pow_pos σ.1
  have hc := okp hσ
  refine cfI_of (own := RX9) (l := [some (rf g 0), some (.int (nI c2)), some (.int 0), some (.int (nI k))]) 0 rfl rfl rfl (Nat.le_of_ble_eq_true rfl) ?_
  refine tm_iload_2 1 rfl dX9_codeBehind_0 ?_
  refine tm_swIn (off := 27) 28 (by decide) (by decide) (by decide +kernel) rfl dX9_codeBehind_1 ?_
  refine tm_iload_1 29 rfl dX9_codeBehind_28 ?_
  refine tm_iload_3 30 rfl dX9_codeBehind_29 ?_
  refine tm_callS_I (c_X0_flipped (k := k) (by omega)) ms_X0_flipped ml_X9_91 rfl rfl (Nat.le_of_ble_eq_true rfl) 33 rfl dX9_codeBehind_30 ?_
  exact tm_iret (by rw [evS_0 (by omega)]) rfl rfl dX9_codeBehind_33

set_option maxRecDepth 100000 in
set_option maxHeartbeats 4000000 in
theorem c_X9_codeBehind_1 {g : GC} {d : Nat} {M : MI} {L : ML} {σ : AS} (hC : hasC M σ) (hσ : okS σ) {c2 k : Nat} (hc2 : c2 < 2 ^ 2 ^ σ.1) (hk : k < σ.1) : CfI g (d + 3) yX9_codeBehind cX9_codeBehind 4 .int [rf g 0, .int (nI c2), .int 1, .int (nI k)] M L (nI (evS σ.1 c2 1 (nI k))) (M) (L) := by
  have hn := hC.1
  have h4 := hσ.2.1
  have h16 := pow4 h4
  have hp1 := Nat.two_pow_pos σ.1
  have hc := okp hσ
  refine cfI_of (own := RX9) (l := [some (rf g 0), some (.int (nI c2)), some (.int 1), some (.int (nI k))]) 0 rfl rfl rfl (Nat.le_of_ble_eq_true rfl) ?_
  refine tm_iload_2 1 rfl dX9_codeBehind_0 ?_
  refine tm_swIn (off := 33) 34 (by decide) (by decide) (by decide +kernel) rfl dX9_codeBehind_1 ?_
  refine tm_iload_1 35 rfl dX9_codeBehind_34 ?_
  refine tm_iload_3 36 rfl dX9_codeBehind_35 ?_
  refine tm_callS_I (c_X0_turned h4 hc2 hk) ms_X0_turned ml_X9_134 rfl rfl (Nat.le_of_ble_eq_true rfl) 39 rfl dX9_codeBehind_36 ?_
  exact tm_iret (by rw [evS_1 (by omega)]) rfl rfl dX9_codeBehind_39

set_option maxRecDepth 100000 in
set_option maxHeartbeats 4000000 in
theorem c_X9_codeBehind_2 {g : GC} {d : Nat} {M : MI} {L : ML} {σ : AS} (hC : hasC M σ) (hσ : okS σ) {c2 : Nat} (hc2 : c2 < 2 ^ 2 ^ σ.1) {y : Int32} : CfI g (d + 3) yX9_codeBehind cX9_codeBehind 4 .int [rf g 0, .int (nI c2), .int 2, .int y] M L (nI (evS σ.1 c2 2 y)) (M) (L) := by
  have hn := hC.1
  have h4 := hσ.2.1
  have h16 := pow4 h4
  have hp1 := Nat.two_pow_pos σ.1
  have hc := okp hσ
  refine cfI_of (own := RX9) (l := [some (rf g 0), some (.int (nI c2)), some (.int 2), some (.int y)]) 0 rfl rfl rfl (Nat.le_of_ble_eq_true rfl) ?_
  refine tm_iload_2 1 rfl dX9_codeBehind_0 ?_
  refine tm_swIn (off := 39) 40 (by decide) (by decide) (by decide +kernel) rfl dX9_codeBehind_1 ?_
  refine tm_aload_0 41 rfl dX9_codeBehind_40 ?_
  refine tm_getr fl_X9_12 rfl rfl 44 rfl dX9_codeBehind_41 ?_
  refine tm_geti fl_X9_67 rfl rfl 47 rfl dX9_codeBehind_44 ?_
  rw [hn]
  refine tm_iload_1 48 rfl dX9_codeBehind_47 ?_
  refine tm_callS_I (c_X0_dual h4 hc2) ms_X0_dual ml_X9_115 rfl rfl (Nat.le_of_ble_eq_true rfl) 51 rfl dX9_codeBehind_48 ?_
  exact tm_iret rfl rfl rfl dX9_codeBehind_51

set_option maxRecDepth 100000 in
set_option maxHeartbeats 4000000 in
theorem c_X9_codeBehind_3 {g : GC} {d : Nat} {M : MI} {L : ML} {σ : AS} (hC : hasC M σ) (hσ : okS σ) {c2 k : Nat} (hc2 : c2 < 2 ^ 2 ^ σ.1) (hk : k < σ.1 - 1) : CfI g (d + 3) yX9_codeBehind cX9_codeBehind 4 .int [rf g 0, .int (nI c2), .int 3, .int (nI k)] M L (nI (evS σ.1 c2 3 (nI k))) (M) (L) := by
  have hn := hC.1
  have h4 := hσ.2.1
  have h16 := pow4 h4
  have hp1 := Nat.two_pow_pos σ.1
  have hc := okp hσ
  refine cfI_of (own := RX9) (l := [some (rf g 0), some (.int (nI c2)), some (.int 3), some (.int (nI k))]) 0 rfl rfl rfl (Nat.le_of_ble_eq_true rfl) ?_
  refine tm_iload_2 1 rfl dX9_codeBehind_0 ?_
  refine tm_swOut 52 (by decide) rfl dX9_codeBehind_1 ?_
  refine tm_iload_1 53 rfl dX9_codeBehind_52 ?_
  refine tm_iload_3 54 rfl dX9_codeBehind_53 ?_
  refine tm_iload_3 55 rfl dX9_codeBehind_54 ?_
  refine tm_iconst (1) rfl 56 rfl dX9_codeBehind_55 ?_
  refine tm_iadd 57 rfl dX9_codeBehind_56 ?_
  rw [nI_1]
  refine tm_callS_I (c_X0_changedAbout h4 hc2 (i := k) (j := k + 1) (by omega) (by omega) (by omega)) ms_X0_changedAbout ml_X9_137 rfl rfl (Nat.le_of_ble_eq_true rfl) 60 rfl dX9_codeBehind_57 ?_
  exact tm_iret (by rw [evS_3 (by omega)]) rfl rfl dX9_codeBehind_60

theorem c_X9_codeBehind {g : GC} {d : Nat} {M : MI} {L : ML} {σ : AS} (hC : hasC M σ) (hσ : okS σ) {c2 : Nat} (hc2 : c2 < 2 ^ 2 ^ σ.1) {x y : Int32} (hx : inN x 4 = true) (hf : evF σ x y = true) : CfI g (d + 3) yX9_codeBehind cX9_codeBehind 4 .int [rf g 0, .int (nI c2), .int x, .int y] M L (nI (evS σ.1 c2 x y)) (M) (L) := by
  rcases in4 hx with rfl | rfl | rfl | rfl
  · obtain ⟨k, hk, rfl⟩ := inN_of hf
    exact c_X9_codeBehind_0 hC hσ hc2 hk
  · obtain ⟨k, hk, rfl⟩ := inN_of hf
    exact c_X9_codeBehind_1 hC hσ hc2 hk
  · exact c_X9_codeBehind_2 hC hσ hc2
  · obtain ⟨k, hk, rfl⟩ := inN_of hf
    exact c_X9_codeBehind_3 hC hσ hc2 hk
set_option maxRecDepth 100000 in
set_option maxHeartbeats 4000000 in
theorem c_X9_codeBehindEvents {g : GC} {d : Nat} {M : MI} {L : ML} {σ : AS} (hC : hasC M σ) (hσ : okS σ) {s : Nat} {f h : Nat → Int32} (hs : M 6 2 = nI s) (hsn : s ≤ 8) (hf : ∀ k, k < s → M 7 k = f k ∧ M 8 k = h k) (hx : ∀ k, k < s → inN (f k) 4 = true) : CfI g (d + 4) yX9_codeBehindEvents cX9_codeBehindEvents 5 .int [rf g 0] M L (nI (evC σ f h s)) (M) (L) := by
  have hn := hC.1
  have h4 := hσ.2.1
  have h16 := pow4 h4
  have hp1 := Nat.two_pow_pos σ.1
  have hc := okp hσ
  refine cfI_of (own := RX9) (l := [some (rf g 0), none, none, none, none]) 4 rfl rfl rfl (Nat.le_of_ble_eq_true rfl) ?_
  refine tm_aload_0 1 rfl dX9_codeBehindEvents_0 ?_
  refine tm_getr fl_X9_12 rfl rfl 4 rfl dX9_codeBehindEvents_1 ?_
  refine tm_geti fl_X9_82 rfl rfl 7 rfl dX9_codeBehindEvents_4 ?_
  rw [hC.2.1]
  refine tm_istore_1 (by decide) rfl 8 rfl dX9_codeBehindEvents_7 ?_
  refine tm_iconst (0) rfl 9 rfl dX9_codeBehindEvents_8 ?_
  refine tm_istore_2 (by decide) rfl 10 rfl dX9_codeBehindEvents_9 ?_
  refine tm_loop (N := s) (fun k => Tm g (d + 4) RX9 cX9_codeBehindEvents 5 (some .int) (QI g (nI (evC σ f h s)) (M) (L)) 10 [some (rf g 0), some (.int (nI (evC σ f h k))), some (.int (nI k)), none, none] [] (M) (L)) (fun k hk ih => ?_) ?_
  · refine tm_iload_2 11 rfl dX9_codeBehindEvents_10 ?_
    refine tm_aload_0 12 rfl dX9_codeBehindEvents_11 ?_
    refine tm_getr fl_X9_12 rfl rfl 15 rfl dX9_codeBehindEvents_12 ?_
    refine tm_getr fl_X9_276 rfl rfl 18 rfl dX9_codeBehindEvents_15 ?_
    refine tm_geti fl_X9_262 rfl rfl 21 rfl dX9_codeBehindEvents_18 ?_
    rw [hs]
    refine tm_icmp_ge_f 24 (nI_ge hk (by omega)) rfl rfl dX9_codeBehindEvents_21 ?_
    refine tm_aload_0 25 rfl dX9_codeBehindEvents_24 ?_
    refine tm_getr fl_X9_12 rfl rfl 28 rfl dX9_codeBehindEvents_25 ?_
    refine tm_getr fl_X9_276 rfl rfl 31 rfl dX9_codeBehindEvents_28 ?_
    refine tm_getr fl_X9_265 rfl rfl 34 rfl dX9_codeBehindEvents_31 ?_
    refine tm_iload_2 35 rfl dX9_codeBehindEvents_34 ?_
    refine tm_ald rfl (ix := k) (ix_nI (by omega) (by decide)) 36 rfl dX9_codeBehindEvents_35 ?_
    rw [(hf k hk).1]
    refine tm_istore_3 (by decide) rfl 37 rfl dX9_codeBehindEvents_36 ?_
    refine tm_aload_0 38 rfl dX9_codeBehindEvents_37 ?_
    refine tm_getr fl_X9_12 rfl rfl 41 rfl dX9_codeBehindEvents_38 ?_
    refine tm_getr fl_X9_276 rfl rfl 44 rfl dX9_codeBehindEvents_41 ?_
    refine tm_getr fl_X9_266 rfl rfl 47 rfl dX9_codeBehindEvents_44 ?_
    refine tm_iload_2 48 rfl dX9_codeBehindEvents_47 ?_
    refine tm_ald rfl (ix := k) (ix_nI (by omega) (by decide)) 49 rfl dX9_codeBehindEvents_48 ?_
    rw [(hf k hk).2]
    refine tm_istore_4 (by decide) rfl 51 rfl dX9_codeBehindEvents_49 ?_
    refine tm_aload_0 52 rfl dX9_codeBehindEvents_51 ?_
    refine tm_iload_3 53 rfl dX9_codeBehindEvents_52 ?_
    refine tm_iload_4 55 rfl dX9_codeBehindEvents_53 ?_
    refine tm_callV_I (ci := 8) (c_X9_eventFinds hC hσ) mv_X9_eventFinds ml_X9_279 rfl rfl rfl rfl rfl (Nat.le_of_ble_eq_true rfl) 58 rfl dX9_codeBehindEvents_55 ?_
    refine tm_if_eqB 70 61 rfl rfl dX9_codeBehindEvents_58 (fun h58 => ?_) (fun h58 => ?_)
    · refine tm_iinc_2 (nI (k + 1)) (iinc1 k) (by decide) rfl 73 rfl dX9_codeBehindEvents_70 ?_
      refine tm_goto 10 rfl dX9_codeBehindEvents_73 ?_
      first
        | (rw [evC_y h58] at ih; exact tm_wkr ih (And.intro rfl (And.intro rfl (And.intro rfl trivial))))
        | (rw [evC_n h58] at ih; exact tm_wkr ih (And.intro rfl (And.intro rfl (And.intro rfl trivial))))
    · refine tm_aload_0 62 rfl dX9_codeBehindEvents_61 ?_
      refine tm_iload_1 63 rfl dX9_codeBehindEvents_62 ?_
      refine tm_iload_3 64 rfl dX9_codeBehindEvents_63 ?_
      refine tm_iload_4 66 rfl dX9_codeBehindEvents_64 ?_
      refine tm_callV_I (ci := 8) (c_X9_codeBehind hC hσ (evC_lt hσ (fun j hj => hx j (by omega))) (hx k hk) h58) mv_X9_codeBehind ml_X9_287 rfl rfl rfl rfl rfl (Nat.le_of_ble_eq_true rfl) 69 rfl dX9_codeBehindEvents_66 ?_
      refine tm_istore_1 (by decide) rfl 70 rfl dX9_codeBehindEvents_69 ?_
      refine tm_iinc_2 (nI (k + 1)) (iinc1 k) (by decide) rfl 73 rfl dX9_codeBehindEvents_70 ?_
      refine tm_goto 10 rfl dX9_codeBehindEvents_73 ?_
      first
        | (rw [evC_y h58] at ih; exact tm_wkr ih (And.intro rfl (And.intro rfl (And.intro rfl trivial))))
        | (rw [evC_n h58] at ih; exact tm_wkr ih (And.intro rfl (And.intro rfl (And.intro rfl trivial))))
  · refine tm_iload_2 11 rfl dX9_codeBehindEvents_10 ?_
    refine tm_aload_0 12 rfl dX9_codeBehindEvents_11 ?_
    refine tm_getr fl_X9_12 rfl rfl 15 rfl dX9_codeBehindEvents_12 ?_
    refine tm_getr fl_X9_276 rfl rfl 18 rfl dX9_codeBehindEvents_15 ?_
    refine tm_geti fl_X9_262 rfl rfl 21 rfl dX9_codeBehindEvents_18 ?_
    rw [hs]
    refine tm_icmp_ge_t 76 (nI_le (Nat.le_refl _) (by omega)) rfl dX9_codeBehindEvents_21 ?_
    refine tm_iload_1 77 rfl dX9_codeBehindEvents_76 ?_
    exact tm_iret rfl rfl rfl dX9_codeBehindEvents_77

def ansAft (σ : AS) (e : Nat) (x : Int32) : Int32 := if x = 0 then nI e else if x = 1 then bI (LR σ.1 e).isSome else if x = 2 then bI (decide (dlN σ.1 e = e)) else -1
theorem aft_x {σ : AS} {e : Nat} {x : Int32} (h : ¬ inN x 3 = true) : ansAft σ e x = -1 := by
  unfold ansAft
  rw [if_neg (fun q => h (by rw [q]; rfl)), if_neg (fun q => h (by rw [q]; rfl)), if_neg (fun q => h (by rw [q]; rfl))]
theorem aft_0 {σ : AS} {e : Nat} : ansAft σ e 0 = nI e := if_pos rfl
theorem aft_1 {σ : AS} {e : Nat} : ansAft σ e 1 = bI (LR σ.1 e).isSome := by unfold ansAft; rw [if_neg (by decide), if_pos rfl]
theorem aft_2 {σ : AS} {e : Nat} : ansAft σ e 2 = bI (decide (dlN σ.1 e = e)) := by unfold ansAft; rw [if_neg (by decide), if_neg (by decide), if_pos rfl]
set_option maxRecDepth 100000 in
set_option maxHeartbeats 4000000 in
theorem c_X9_after {g : GC} {d : Nat} {M : MI} {L : ML} {σ : AS} (hC : hasC M σ) (hσ : okS σ) {s : Nat} {f h : Nat → Int32} (hs : M 6 2 = nI s) (hsn : s ≤ 8) (hf : ∀ k, k < s → M 7 k = f k ∧ M 8 k = h k) (hx : ∀ k, k < s → inN (f k) 4 = true) {x : Int32} : CrI g (d + 5) yX9_after cX9_after 2 .int [rf g 0, .int x] M L (fun r M' L' => L' = L ∧ r = ansAft σ (evC σ f h s) x ∧ frS M M') := by
  have hn := hC.1
  have h4 := hσ.2.1
  have h16 := pow4 h4
  have hp1 := Nat.two_pow_pos σ.1
  have hc := okp hσ
  have he := evC_lt hσ (f := f) (h := h) hx
  refine crI_of (own := RX9) (l := [some (rf g 0), some (.int x)]) 0 rfl rfl rfl (Nat.le_of_ble_eq_true rfl) ?_
  refine tm_iload_1 1 rfl dX9_after_0 ?_
  by_cases hs1 : inN x 3 = true
  · obtain ⟨q1, hq1, rfl⟩ := inN_of hs1
    rcases (show q1 = 0 ∨ q1 = 1 ∨ q1 = 2 by omega) with rfl | rfl | rfl
    · refine tm_swIn (off := 27) 28 (by decide) (by decide) (by decide +kernel) rfl dX9_after_1 ?_
      refine tm_aload_0 29 rfl dX9_after_28 ?_
      refine tm_callV_I (ci := 8) (c_X9_codeBehindEvents hC hσ hs hsn hf hx) mv_X9_codeBehindEvents ml_X9_284 rfl rfl rfl rfl rfl (Nat.le_of_ble_eq_true rfl) 32 rfl dX9_after_29 ?_
      exact tm_iretR ⟨rfl, aft_0.symm, frS.rf⟩ dX9_after_32
    · refine tm_swIn (off := 32) 33 (by decide) (by decide) (by decide +kernel) rfl dX9_after_1 ?_
      refine tm_aload_0 34 rfl dX9_after_33 ?_
      refine tm_getr fl_X9_41 rfl rfl 37 rfl dX9_after_34 ?_
      refine tm_aload_0 38 rfl dX9_after_37 ?_
      refine tm_getr fl_X9_12 rfl rfl 41 rfl dX9_after_38 ?_
      refine tm_geti fl_X9_67 rfl rfl 44 rfl dX9_after_41 ?_
      rw [hn]
      refine tm_aload_0 45 rfl dX9_after_44 ?_
      refine tm_callV_I (ci := 8) (c_X9_codeBehindEvents hC hσ hs hsn hf hx) mv_X9_codeBehindEvents ml_X9_284 rfl rfl rfl rfl rfl (Nat.le_of_ble_eq_true rfl) 48 rfl dX9_after_45 ?_
      refine tm_callVr_I (ci := 2) (c_X3_balance h4 he) mv_X3_balance ml_X9_124 rfl rfl rfl rfl rfl (Nat.le_of_ble_eq_true rfl) 51 rfl dX9_after_48 (fun F1 M1 L1 hq => ?_)
      obtain ⟨rfl, f1, rfl, hj⟩ := hq
      refine tm_callS_I (c_X9_oneIf) ms_X9_oneIf ml_X9_197 rfl rfl (Nat.le_of_ble_eq_true rfl) 54 rfl dX9_after_51 ?_
      exact tm_iretR ⟨rfl, aft_1.symm, f1⟩ dX9_after_54
    · refine tm_swIn (off := 54) 55 (by decide) (by decide) (by decide +kernel) rfl dX9_after_1 ?_
      refine tm_aload_0 56 rfl dX9_after_55 ?_
      refine tm_getr fl_X9_12 rfl rfl 59 rfl dX9_after_56 ?_
      refine tm_geti fl_X9_67 rfl rfl 62 rfl dX9_after_59 ?_
      rw [hn]
      refine tm_aload_0 63 rfl dX9_after_62 ?_
      refine tm_callV_I (ci := 8) (c_X9_codeBehindEvents hC hσ hs hsn hf hx) mv_X9_codeBehindEvents ml_X9_284 rfl rfl rfl rfl rfl (Nat.le_of_ble_eq_true rfl) 66 rfl dX9_after_63 ?_
      refine tm_callS_I (c_X0_isOwnDual h4 he) ms_X0_isOwnDual ml_X9_201 rfl rfl (Nat.le_of_ble_eq_true rfl) 69 rfl dX9_after_66 ?_
      refine tm_callS_I (c_X9_oneIf) ms_X9_oneIf ml_X9_197 rfl rfl (Nat.le_of_ble_eq_true rfl) 72 rfl dX9_after_69 ?_
      exact tm_iretR ⟨rfl, aft_2.symm, frS.rf⟩ dX9_after_72
  · refine tm_swOut 73 (sw_out hs1 rfl) rfl dX9_after_1 ?_
    refine tm_iconst (-1) rfl 74 rfl dX9_after_73 ?_
    exact tm_iretR ⟨rfl, (aft_x hs1).symm, frS.rf⟩ dX9_after_74

set_option maxRecDepth 100000 in
set_option maxHeartbeats 4000000 in
theorem c_X10_after_0 {g : GC} {d : Nat} {M : MI} {L : ML} {σ : AS} (hM : hasM M σ) (hσ : okS σ) {s : Nat} {f h : Nat → Int32} (hs : M 55 21 = nI s) (hsn : s ≤ 8) (hf : ∀ k, k < s → M 55 (22 + k) = f k ∧ M 55 (30 + k) = h k) (hx : ∀ k, k < s → inN (f k) 4 = true) : CrI g (d + 8) yX10_after cX10_after 6 .int [rf g 54, .int 0] M L (fun r M' L' => L' = L ∧ r = ansAft σ (evC σ f h s) 0 ∧ frM M M') := by
  have hn := hM.1
  have h4 := hσ.2.1
  have h16 := pow4 h4
  have hp1 := Nat.two_pow_pos σ.1
  have hc := okp hσ
  have h65 := p65 h4
  have he := evC_lt hσ (f := f) (h := h) hx
  have hd := dlN_lt σ.1 (evC σ f h s)
  refine crI_of (own := RX10) (l := [some (rf g 54), some (.int 0), none, none, none, none]) 4 rfl rfl rfl (Nat.le_of_ble_eq_true rfl) ?_
  refine tm_iload_1 1 rfl dX10_after_0 ?_
  refine tm_i2l 2 rfl dX10_after_1 ?_
  refine tm_lconst 0 rfl 3 rfl dX10_after_2 ?_
  refine tm_ldc2 kl_X10_64 6 rfl dX10_after_3 ?_
  refine tm_callS_I (c_X10_in) ms_X10_in ml_X10_60 rfl rfl (Nat.le_of_ble_eq_true rfl) 9 rfl dX10_after_6 ?_
  rw [show btw (0 : Int32).toInt64 0 2 = true by decide]
  refine tm_if_neB 14 12 rfl rfl dX10_after_9 (fun h9 => ?_) (fun h9 => ?_)
  · refine tm_aload_0 15 rfl dX10_after_14 ?_
    refine tm_getr fl_X10_11 rfl rfl 18 rfl dX10_after_15 ?_
    refine tm_iconst (1) rfl 19 rfl dX10_after_18 ?_
    refine tm_ald rfl (ix := 1) ⟨by decide, by decide, by decide⟩ 20 rfl dX10_after_19 ?_
    rw [hM.2.1]
    refine tm_istore_2 (by decide) rfl 21 rfl dX10_after_20 ?_
    refine tm_iconst (0) rfl 22 rfl dX10_after_21 ?_
    refine tm_istore_3 (by decide) rfl 23 rfl dX10_after_22 ?_
    refine tm_loop (N := s) (fun k => Tm g (d + 8) RX10 cX10_after 6 (some .int) (QIr g (fun r M' L' => L' = L ∧ r = ansAft σ (evC σ f h s) 0 ∧ frM M M')) 23 [some (rf g 54), some (.int 0), some (.int (nI (evC σ f h k))), some (.int (nI k)), none, none] [] (M) (L)) (fun k hk ih => ?_) ?_
    · have hek := evC_lt hσ (f := f) (h := h) (k := k) (fun j hj => hx j (by omega))
      refine tm_iload_3 24 rfl dX10_after_23 ?_
      refine tm_aload_0 25 rfl dX10_after_24 ?_
      refine tm_getr fl_X10_11 rfl rfl 28 rfl dX10_after_25 ?_
      refine tm_bipush (21) (by decide) 30 rfl dX10_after_28 ?_
      refine tm_ald rfl (ix := 21) ⟨by decide, by decide, by decide⟩ 31 rfl dX10_after_30 ?_
      rw [hs]
      refine tm_icmp_ge_f 34 (nI_ge hk (by omega)) rfl rfl dX10_after_31 ?_
      refine tm_aload_0 35 rfl dX10_after_34 ?_
      refine tm_getr fl_X10_11 rfl rfl 38 rfl dX10_after_35 ?_
      refine tm_bipush (22) (by decide) 40 rfl dX10_after_38 ?_
      refine tm_iload_3 41 rfl dX10_after_40 ?_
      refine tm_iadd 42 rfl dX10_after_41 ?_
      rw [show (22 : Int32) = nI 22 from rfl, nI_add]
      refine tm_ald rfl (ix := 22 + k) (ix_nI (by omega) (by decide)) 43 rfl dX10_after_42 ?_
      rw [(hf k hk).1]
      refine tm_istore_4 (by decide) rfl 45 rfl dX10_after_43 ?_
      refine tm_aload_0 46 rfl dX10_after_45 ?_
      refine tm_getr fl_X10_11 rfl rfl 49 rfl dX10_after_46 ?_
      refine tm_bipush (30) (by decide) 51 rfl dX10_after_49 ?_
      refine tm_iload_3 52 rfl dX10_after_51 ?_
      refine tm_iadd 53 rfl dX10_after_52 ?_
      rw [show (30 : Int32) = nI 30 from rfl, nI_add]
      refine tm_ald rfl (ix := 30 + k) (ix_nI (by omega) (by decide)) 54 rfl dX10_after_53 ?_
      rw [(hf k hk).2]
      refine tm_istore_5 (by decide) rfl 56 rfl dX10_after_54 ?_
      refine tm_aload_0 57 rfl dX10_after_56 ?_
      refine tm_iload_4 59 rfl dX10_after_57 ?_
      refine tm_iload_5 61 rfl dX10_after_59 ?_
      refine tm_callV_I (ci := 9) (c_X10_isThere hM hσ (hx k hk)) mv_X10_isThere ml_X10_176 rfl rfl rfl rfl rfl (Nat.le_of_ble_eq_true rfl) 64 rfl dX10_after_61 ?_
      refine tm_if_eqB 123 67 rfl rfl dX10_after_64 (fun h64 => ?_) (fun h64 => ?_)
      · refine tm_iinc_3 (nI (k + 1)) (iinc1 k) (by decide) rfl 126 rfl dX10_after_123 ?_
        refine tm_goto 23 rfl dX10_after_126 ?_
        first
          | (rw [evC_n h64] at ih; exact tm_wkr ih (And.intro rfl (And.intro rfl (And.intro rfl (And.intro rfl trivial)))))
          | exact tm_wkr ih (And.intro rfl (And.intro rfl (And.intro rfl (And.intro rfl trivial))))
      · refine tm_iload_4 69 rfl dX10_after_67 ?_
        refine tm_join1 122 (nI (evC σ f h (k + 1))) ?_ (fun hJ122 => ?_)
        · refine tm_istore_2 (by decide) rfl 123 rfl dX10_after_122 ?_
          refine tm_iinc_3 (nI (k + 1)) (iinc1 k) (by decide) rfl 126 rfl dX10_after_123 ?_
          refine tm_goto 23 rfl dX10_after_126 ?_
          first
            | (rw [evC_n h64] at ih; exact tm_wkr ih (And.intro rfl (And.intro rfl (And.intro rfl (And.intro rfl trivial)))))
            | exact tm_wkr ih (And.intro rfl (And.intro rfl (And.intro rfl (And.intro rfl trivial))))
        · refine tm_if_ne 81 72 rfl rfl dX10_after_69 (fun h69 => ?_) (fun h69 => ?_)
          · refine tm_iload_4 83 rfl dX10_after_81 ?_
            refine tm_iconst (1) rfl 84 rfl dX10_after_83 ?_
            refine tm_icmp_ne 97 87 rfl rfl dX10_after_84 (fun h84 => ?_) (fun h84 => ?_)
            · refine tm_iload_4 99 rfl dX10_after_97 ?_
              refine tm_iconst (2) rfl 100 rfl dX10_after_99 ?_
              refine tm_icmp_ne 111 103 rfl rfl dX10_after_100 (fun h100 => ?_) (fun h100 => ?_)
              · have e3 : f k = 3 := by rcases in4 (hx k hk) with q | q | q | q; exact absurd q h69; exact absurd q h84; exact absurd q h100; exact q
                have h6 : evF σ 3 (h k) = true := by rw [← e3]; exact h64
                obtain ⟨j, hj, ej⟩ := inN_of h6
                rw [ej] at hJ122 ⊢
                refine tm_aload_0 112 rfl dX10_after_111 ?_
                refine tm_iload_2 113 rfl dX10_after_112 ?_
                refine tm_iload_5 115 rfl dX10_after_113 ?_
                refine tm_iload_5 117 rfl dX10_after_115 ?_
                refine tm_iconst (1) rfl 118 rfl dX10_after_117 ?_
                refine tm_iadd 119 rfl dX10_after_118 ?_
                rw [nI_1]
                refine tm_callV_I (ci := 9) (c_X10_changed hn h4 (c := evC σ f h k) (by omega) (i := j) (j := j + 1) (by omega) (by omega)) mv_X10_changed ml_X10_114 rfl rfl rfl rfl rfl (Nat.le_of_ble_eq_true rfl) 122 rfl dX10_after_119 ?_
                exact tm_top (by first | (rw [evC_y h64, h69, ej, evS_0 (by omega)]) | (rw [evC_y h64, h84, ej, evS_1 (by omega)]) | (rw [evC_y h64, h100, evS_2]) | (rw [evC_y h64, e3, ej, evS_3 (by omega)])) hJ122
              · skip
                refine tm_aload_0 104 rfl dX10_after_103 ?_
                refine tm_iload_2 105 rfl dX10_after_104 ?_
                refine tm_callV_I (ci := 9) (c_X10_dual hn h4 (c := evC σ f h k) (by omega)) mv_X10_dual ml_X10_107 rfl rfl rfl rfl rfl (Nat.le_of_ble_eq_true rfl) 108 rfl dX10_after_105 ?_
                refine tm_goto 122 rfl dX10_after_108 ?_
                exact tm_top (by first | (rw [evC_y h64, h69, ej, evS_0 (by omega)]) | (rw [evC_y h64, h84, ej, evS_1 (by omega)]) | (rw [evC_y h64, h100, evS_2]) | (rw [evC_y h64, e3, ej, evS_3 (by omega)])) hJ122
            · have h6 : evF σ 1 (h k) = true := by rw [← h84]; exact h64
              obtain ⟨j, hj, ej⟩ := inN_of h6
              rw [ej] at hJ122 ⊢
              refine tm_aload_0 88 rfl dX10_after_87 ?_
              refine tm_iload_2 89 rfl dX10_after_88 ?_
              refine tm_iload_5 91 rfl dX10_after_89 ?_
              refine tm_callV_I (ci := 9) (c_X10_turned hn h4 (c := evC σ f h k) (by omega) hj) mv_X10_turned ml_X10_110 rfl rfl rfl rfl rfl (Nat.le_of_ble_eq_true rfl) 94 rfl dX10_after_91 ?_
              refine tm_goto 122 rfl dX10_after_94 ?_
              exact tm_top (by first | (rw [evC_y h64, h69, ej, evS_0 (by omega)]) | (rw [evC_y h64, h84, ej, evS_1 (by omega)]) | (rw [evC_y h64, h100, evS_2]) | (rw [evC_y h64, e3, ej, evS_3 (by omega)])) hJ122
          · have h6 : evF σ 0 (h k) = true := by rw [← h69]; exact h64
            obtain ⟨j, hj, ej⟩ := inN_of h6
            rw [ej] at hJ122 ⊢
            refine tm_iload_2 73 rfl dX10_after_72 ?_
            refine tm_iconst (1) rfl 74 rfl dX10_after_73 ?_
            refine tm_iload_5 76 rfl dX10_after_74 ?_
            refine tm_ishl 77 rfl dX10_after_76 ?_
            rw [sh_1 j (by omega)]
            refine tm_ixor 78 rfl dX10_after_77 ?_
            rw [fb_xorI]
            refine tm_goto 122 rfl dX10_after_78 ?_
            exact tm_top (by first | (rw [evC_y h64, h69, ej, evS_0 (by omega)]) | (rw [evC_y h64, h84, ej, evS_1 (by omega)]) | (rw [evC_y h64, h100, evS_2]) | (rw [evC_y h64, e3, ej, evS_3 (by omega)])) hJ122
    · refine tm_iload_3 24 rfl dX10_after_23 ?_
      refine tm_aload_0 25 rfl dX10_after_24 ?_
      refine tm_getr fl_X10_11 rfl rfl 28 rfl dX10_after_25 ?_
      refine tm_bipush (21) (by decide) 30 rfl dX10_after_28 ?_
      refine tm_ald rfl (ix := 21) ⟨by decide, by decide, by decide⟩ 31 rfl dX10_after_30 ?_
      rw [hs]
      refine tm_icmp_ge_t 129 (nI_le (Nat.le_refl _) (by omega)) rfl dX10_after_31 ?_
      refine tm_iload_1 130 rfl dX10_after_129 ?_
      refine tm_if_ne_f 133 (rfl) rfl rfl dX10_after_130 ?_
      refine tm_iload_2 134 rfl dX10_after_133 ?_
      refine tm_goto 170 rfl dX10_after_134 ?_
      exact tm_iretR ⟨rfl, aft_0.symm, frM.rf⟩ dX10_after_170
  · exact absurd h9 (by decide)

set_option maxRecDepth 100000 in
set_option maxHeartbeats 4000000 in
theorem c_X10_after_1 {g : GC} {d : Nat} {M : MI} {L : ML} {σ : AS} (hM : hasM M σ) (hσ : okS σ) {s : Nat} {f h : Nat → Int32} (hs : M 55 21 = nI s) (hsn : s ≤ 8) (hf : ∀ k, k < s → M 55 (22 + k) = f k ∧ M 55 (30 + k) = h k) (hx : ∀ k, k < s → inN (f k) 4 = true) : CrI g (d + 8) yX10_after cX10_after 6 .int [rf g 54, .int 1] M L (fun r M' L' => L' = L ∧ r = ansAft σ (evC σ f h s) 1 ∧ frM M M') := by
  have hn := hM.1
  have h4 := hσ.2.1
  have h16 := pow4 h4
  have hp1 := Nat.two_pow_pos σ.1
  have hc := okp hσ
  have h65 := p65 h4
  have he := evC_lt hσ (f := f) (h := h) hx
  have hd := dlN_lt σ.1 (evC σ f h s)
  refine crI_of (own := RX10) (l := [some (rf g 54), some (.int 1), none, none, none, none]) 4 rfl rfl rfl (Nat.le_of_ble_eq_true rfl) ?_
  refine tm_iload_1 1 rfl dX10_after_0 ?_
  refine tm_i2l 2 rfl dX10_after_1 ?_
  refine tm_lconst 0 rfl 3 rfl dX10_after_2 ?_
  refine tm_ldc2 kl_X10_64 6 rfl dX10_after_3 ?_
  refine tm_callS_I (c_X10_in) ms_X10_in ml_X10_60 rfl rfl (Nat.le_of_ble_eq_true rfl) 9 rfl dX10_after_6 ?_
  rw [show btw (1 : Int32).toInt64 0 2 = true by decide]
  refine tm_if_neB 14 12 rfl rfl dX10_after_9 (fun h9 => ?_) (fun h9 => ?_)
  · refine tm_aload_0 15 rfl dX10_after_14 ?_
    refine tm_getr fl_X10_11 rfl rfl 18 rfl dX10_after_15 ?_
    refine tm_iconst (1) rfl 19 rfl dX10_after_18 ?_
    refine tm_ald rfl (ix := 1) ⟨by decide, by decide, by decide⟩ 20 rfl dX10_after_19 ?_
    rw [hM.2.1]
    refine tm_istore_2 (by decide) rfl 21 rfl dX10_after_20 ?_
    refine tm_iconst (0) rfl 22 rfl dX10_after_21 ?_
    refine tm_istore_3 (by decide) rfl 23 rfl dX10_after_22 ?_
    refine tm_loop (N := s) (fun k => Tm g (d + 8) RX10 cX10_after 6 (some .int) (QIr g (fun r M' L' => L' = L ∧ r = ansAft σ (evC σ f h s) 1 ∧ frM M M')) 23 [some (rf g 54), some (.int 1), some (.int (nI (evC σ f h k))), some (.int (nI k)), none, none] [] (M) (L)) (fun k hk ih => ?_) ?_
    · have hek := evC_lt hσ (f := f) (h := h) (k := k) (fun j hj => hx j (by omega))
      refine tm_iload_3 24 rfl dX10_after_23 ?_
      refine tm_aload_0 25 rfl dX10_after_24 ?_
      refine tm_getr fl_X10_11 rfl rfl 28 rfl dX10_after_25 ?_
      refine tm_bipush (21) (by decide) 30 rfl dX10_after_28 ?_
      refine tm_ald rfl (ix := 21) ⟨by decide, by decide, by decide⟩ 31 rfl dX10_after_30 ?_
      rw [hs]
      refine tm_icmp_ge_f 34 (nI_ge hk (by omega)) rfl rfl dX10_after_31 ?_
      refine tm_aload_0 35 rfl dX10_after_34 ?_
      refine tm_getr fl_X10_11 rfl rfl 38 rfl dX10_after_35 ?_
      refine tm_bipush (22) (by decide) 40 rfl dX10_after_38 ?_
      refine tm_iload_3 41 rfl dX10_after_40 ?_
      refine tm_iadd 42 rfl dX10_after_41 ?_
      rw [show (22 : Int32) = nI 22 from rfl, nI_add]
      refine tm_ald rfl (ix := 22 + k) (ix_nI (by omega) (by decide)) 43 rfl dX10_after_42 ?_
      rw [(hf k hk).1]
      refine tm_istore_4 (by decide) rfl 45 rfl dX10_after_43 ?_
      refine tm_aload_0 46 rfl dX10_after_45 ?_
      refine tm_getr fl_X10_11 rfl rfl 49 rfl dX10_after_46 ?_
      refine tm_bipush (30) (by decide) 51 rfl dX10_after_49 ?_
      refine tm_iload_3 52 rfl dX10_after_51 ?_
      refine tm_iadd 53 rfl dX10_after_52 ?_
      rw [show (30 : Int32) = nI 30 from rfl, nI_add]
      refine tm_ald rfl (ix := 30 + k) (ix_nI (by omega) (by decide)) 54 rfl dX10_after_53 ?_
      rw [(hf k hk).2]
      refine tm_istore_5 (by decide) rfl 56 rfl dX10_after_54 ?_
      refine tm_aload_0 57 rfl dX10_after_56 ?_
      refine tm_iload_4 59 rfl dX10_after_57 ?_
      refine tm_iload_5 61 rfl dX10_after_59 ?_
      refine tm_callV_I (ci := 9) (c_X10_isThere hM hσ (hx k hk)) mv_X10_isThere ml_X10_176 rfl rfl rfl rfl rfl (Nat.le_of_ble_eq_true rfl) 64 rfl dX10_after_61 ?_
      refine tm_if_eqB 123 67 rfl rfl dX10_after_64 (fun h64 => ?_) (fun h64 => ?_)
      · refine tm_iinc_3 (nI (k + 1)) (iinc1 k) (by decide) rfl 126 rfl dX10_after_123 ?_
        refine tm_goto 23 rfl dX10_after_126 ?_
        first
          | (rw [evC_n h64] at ih; exact tm_wkr ih (And.intro rfl (And.intro rfl (And.intro rfl (And.intro rfl trivial)))))
          | exact tm_wkr ih (And.intro rfl (And.intro rfl (And.intro rfl (And.intro rfl trivial))))
      · refine tm_iload_4 69 rfl dX10_after_67 ?_
        refine tm_join1 122 (nI (evC σ f h (k + 1))) ?_ (fun hJ122 => ?_)
        · refine tm_istore_2 (by decide) rfl 123 rfl dX10_after_122 ?_
          refine tm_iinc_3 (nI (k + 1)) (iinc1 k) (by decide) rfl 126 rfl dX10_after_123 ?_
          refine tm_goto 23 rfl dX10_after_126 ?_
          first
            | (rw [evC_n h64] at ih; exact tm_wkr ih (And.intro rfl (And.intro rfl (And.intro rfl (And.intro rfl trivial)))))
            | exact tm_wkr ih (And.intro rfl (And.intro rfl (And.intro rfl (And.intro rfl trivial))))
        · refine tm_if_ne 81 72 rfl rfl dX10_after_69 (fun h69 => ?_) (fun h69 => ?_)
          · refine tm_iload_4 83 rfl dX10_after_81 ?_
            refine tm_iconst (1) rfl 84 rfl dX10_after_83 ?_
            refine tm_icmp_ne 97 87 rfl rfl dX10_after_84 (fun h84 => ?_) (fun h84 => ?_)
            · refine tm_iload_4 99 rfl dX10_after_97 ?_
              refine tm_iconst (2) rfl 100 rfl dX10_after_99 ?_
              refine tm_icmp_ne 111 103 rfl rfl dX10_after_100 (fun h100 => ?_) (fun h100 => ?_)
              · have e3 : f k = 3 := by rcases in4 (hx k hk) with q | q | q | q; exact absurd q h69; exact absurd q h84; exact absurd q h100; exact q
                have h6 : evF σ 3 (h k) = true := by rw [← e3]; exact h64
                obtain ⟨j, hj, ej⟩ := inN_of h6
                rw [ej] at hJ122 ⊢
                refine tm_aload_0 112 rfl dX10_after_111 ?_
                refine tm_iload_2 113 rfl dX10_after_112 ?_
                refine tm_iload_5 115 rfl dX10_after_113 ?_
                refine tm_iload_5 117 rfl dX10_after_115 ?_
                refine tm_iconst (1) rfl 118 rfl dX10_after_117 ?_
                refine tm_iadd 119 rfl dX10_after_118 ?_
                rw [nI_1]
                refine tm_callV_I (ci := 9) (c_X10_changed hn h4 (c := evC σ f h k) (by omega) (i := j) (j := j + 1) (by omega) (by omega)) mv_X10_changed ml_X10_114 rfl rfl rfl rfl rfl (Nat.le_of_ble_eq_true rfl) 122 rfl dX10_after_119 ?_
                exact tm_top (by first | (rw [evC_y h64, h69, ej, evS_0 (by omega)]) | (rw [evC_y h64, h84, ej, evS_1 (by omega)]) | (rw [evC_y h64, h100, evS_2]) | (rw [evC_y h64, e3, ej, evS_3 (by omega)])) hJ122
              · skip
                refine tm_aload_0 104 rfl dX10_after_103 ?_
                refine tm_iload_2 105 rfl dX10_after_104 ?_
                refine tm_callV_I (ci := 9) (c_X10_dual hn h4 (c := evC σ f h k) (by omega)) mv_X10_dual ml_X10_107 rfl rfl rfl rfl rfl (Nat.le_of_ble_eq_true rfl) 108 rfl dX10_after_105 ?_
                refine tm_goto 122 rfl dX10_after_108 ?_
                exact tm_top (by first | (rw [evC_y h64, h69, ej, evS_0 (by omega)]) | (rw [evC_y h64, h84, ej, evS_1 (by omega)]) | (rw [evC_y h64, h100, evS_2]) | (rw [evC_y h64, e3, ej, evS_3 (by omega)])) hJ122
            · have h6 : evF σ 1 (h k) = true := by rw [← h84]; exact h64
              obtain ⟨j, hj, ej⟩ := inN_of h6
              rw [ej] at hJ122 ⊢
              refine tm_aload_0 88 rfl dX10_after_87 ?_
              refine tm_iload_2 89 rfl dX10_after_88 ?_
              refine tm_iload_5 91 rfl dX10_after_89 ?_
              refine tm_callV_I (ci := 9) (c_X10_turned hn h4 (c := evC σ f h k) (by omega) hj) mv_X10_turned ml_X10_110 rfl rfl rfl rfl rfl (Nat.le_of_ble_eq_true rfl) 94 rfl dX10_after_91 ?_
              refine tm_goto 122 rfl dX10_after_94 ?_
              exact tm_top (by first | (rw [evC_y h64, h69, ej, evS_0 (by omega)]) | (rw [evC_y h64, h84, ej, evS_1 (by omega)]) | (rw [evC_y h64, h100, evS_2]) | (rw [evC_y h64, e3, ej, evS_3 (by omega)])) hJ122
          · have h6 : evF σ 0 (h k) = true := by rw [← h69]; exact h64
            obtain ⟨j, hj, ej⟩ := inN_of h6
            rw [ej] at hJ122 ⊢
            refine tm_iload_2 73 rfl dX10_after_72 ?_
            refine tm_iconst (1) rfl 74 rfl dX10_after_73 ?_
            refine tm_iload_5 76 rfl dX10_after_74 ?_
            refine tm_ishl 77 rfl dX10_after_76 ?_
            rw [sh_1 j (by omega)]
            refine tm_ixor 78 rfl dX10_after_77 ?_
            rw [fb_xorI]
            refine tm_goto 122 rfl dX10_after_78 ?_
            exact tm_top (by first | (rw [evC_y h64, h69, ej, evS_0 (by omega)]) | (rw [evC_y h64, h84, ej, evS_1 (by omega)]) | (rw [evC_y h64, h100, evS_2]) | (rw [evC_y h64, e3, ej, evS_3 (by omega)])) hJ122
    · refine tm_iload_3 24 rfl dX10_after_23 ?_
      refine tm_aload_0 25 rfl dX10_after_24 ?_
      refine tm_getr fl_X10_11 rfl rfl 28 rfl dX10_after_25 ?_
      refine tm_bipush (21) (by decide) 30 rfl dX10_after_28 ?_
      refine tm_ald rfl (ix := 21) ⟨by decide, by decide, by decide⟩ 31 rfl dX10_after_30 ?_
      rw [hs]
      refine tm_icmp_ge_t 129 (nI_le (Nat.le_refl _) (by omega)) rfl dX10_after_31 ?_
      refine tm_iload_1 130 rfl dX10_after_129 ?_
      refine tm_if_ne_t 137 (by decide) rfl dX10_after_130 ?_
      refine tm_iload_1 138 rfl dX10_after_137 ?_
      refine tm_iconst (1) rfl 139 rfl dX10_after_138 ?_
      refine tm_icmp_ne_f 142 (rfl) rfl rfl dX10_after_139 ?_
      refine tm_aload_0 143 rfl dX10_after_142 ?_
      refine tm_iload_2 144 rfl dX10_after_143 ?_
      refine tm_callVr_I (ci := 9) (c_X10_isLinear hn hσ.1 h4 (c := evC σ f h s) (by omega)) mv_X10_isLinear ml_X10_101 rfl rfl rfl rfl rfl (Nat.le_of_ble_eq_true rfl) 147 rfl dX10_after_144 (fun F1 M1 L1 hq => ?_)
      obtain ⟨rfl, f1, rfl, hjj⟩ := hq
      refine tm_callS_I (c_X10_bit) ms_X10_bit ml_X10_90 rfl rfl (Nat.le_of_ble_eq_true rfl) 150 rfl dX10_after_147 ?_
      refine tm_goto 170 rfl dX10_after_150 ?_
      exact tm_iretR ⟨rfl, aft_1.symm, f1⟩ dX10_after_170
  · exact absurd h9 (by decide)

set_option maxRecDepth 100000 in
set_option maxHeartbeats 4000000 in
theorem c_X10_after_2 {g : GC} {d : Nat} {M : MI} {L : ML} {σ : AS} (hM : hasM M σ) (hσ : okS σ) {s : Nat} {f h : Nat → Int32} (hs : M 55 21 = nI s) (hsn : s ≤ 8) (hf : ∀ k, k < s → M 55 (22 + k) = f k ∧ M 55 (30 + k) = h k) (hx : ∀ k, k < s → inN (f k) 4 = true) : CrI g (d + 8) yX10_after cX10_after 6 .int [rf g 54, .int 2] M L (fun r M' L' => L' = L ∧ r = ansAft σ (evC σ f h s) 2 ∧ frM M M') := by
  have hn := hM.1
  have h4 := hσ.2.1
  have h16 := pow4 h4
  have hp1 := Nat.two_pow_pos σ.1
  have hc := okp hσ
  have h65 := p65 h4
  have he := evC_lt hσ (f := f) (h := h) hx
  have hd := dlN_lt σ.1 (evC σ f h s)
  refine crI_of (own := RX10) (l := [some (rf g 54), some (.int 2), none, none, none, none]) 4 rfl rfl rfl (Nat.le_of_ble_eq_true rfl) ?_
  refine tm_iload_1 1 rfl dX10_after_0 ?_
  refine tm_i2l 2 rfl dX10_after_1 ?_
  refine tm_lconst 0 rfl 3 rfl dX10_after_2 ?_
  refine tm_ldc2 kl_X10_64 6 rfl dX10_after_3 ?_
  refine tm_callS_I (c_X10_in) ms_X10_in ml_X10_60 rfl rfl (Nat.le_of_ble_eq_true rfl) 9 rfl dX10_after_6 ?_
  rw [show btw (2 : Int32).toInt64 0 2 = true by decide]
  refine tm_if_neB 14 12 rfl rfl dX10_after_9 (fun h9 => ?_) (fun h9 => ?_)
  · refine tm_aload_0 15 rfl dX10_after_14 ?_
    refine tm_getr fl_X10_11 rfl rfl 18 rfl dX10_after_15 ?_
    refine tm_iconst (1) rfl 19 rfl dX10_after_18 ?_
    refine tm_ald rfl (ix := 1) ⟨by decide, by decide, by decide⟩ 20 rfl dX10_after_19 ?_
    rw [hM.2.1]
    refine tm_istore_2 (by decide) rfl 21 rfl dX10_after_20 ?_
    refine tm_iconst (0) rfl 22 rfl dX10_after_21 ?_
    refine tm_istore_3 (by decide) rfl 23 rfl dX10_after_22 ?_
    refine tm_loop (N := s) (fun k => Tm g (d + 8) RX10 cX10_after 6 (some .int) (QIr g (fun r M' L' => L' = L ∧ r = ansAft σ (evC σ f h s) 2 ∧ frM M M')) 23 [some (rf g 54), some (.int 2), some (.int (nI (evC σ f h k))), some (.int (nI k)), none, none] [] (M) (L)) (fun k hk ih => ?_) ?_
    · have hek := evC_lt hσ (f := f) (h := h) (k := k) (fun j hj => hx j (by omega))
      refine tm_iload_3 24 rfl dX10_after_23 ?_
      refine tm_aload_0 25 rfl dX10_after_24 ?_
      refine tm_getr fl_X10_11 rfl rfl 28 rfl dX10_after_25 ?_
      refine tm_bipush (21) (by decide) 30 rfl dX10_after_28 ?_
      refine tm_ald rfl (ix := 21) ⟨by decide, by decide, by decide⟩ 31 rfl dX10_after_30 ?_
      rw [hs]
      refine tm_icmp_ge_f 34 (nI_ge hk (by omega)) rfl rfl dX10_after_31 ?_
      refine tm_aload_0 35 rfl dX10_after_34 ?_
      refine tm_getr fl_X10_11 rfl rfl 38 rfl dX10_after_35 ?_
      refine tm_bipush (22) (by decide) 40 rfl dX10_after_38 ?_
      refine tm_iload_3 41 rfl dX10_after_40 ?_
      refine tm_iadd 42 rfl dX10_after_41 ?_
      rw [show (22 : Int32) = nI 22 from rfl, nI_add]
      refine tm_ald rfl (ix := 22 + k) (ix_nI (by omega) (by decide)) 43 rfl dX10_after_42 ?_
      rw [(hf k hk).1]
      refine tm_istore_4 (by decide) rfl 45 rfl dX10_after_43 ?_
      refine tm_aload_0 46 rfl dX10_after_45 ?_
      refine tm_getr fl_X10_11 rfl rfl 49 rfl dX10_after_46 ?_
      refine tm_bipush (30) (by decide) 51 rfl dX10_after_49 ?_
      refine tm_iload_3 52 rfl dX10_after_51 ?_
      refine tm_iadd 53 rfl dX10_after_52 ?_
      rw [show (30 : Int32) = nI 30 from rfl, nI_add]
      refine tm_ald rfl (ix := 30 + k) (ix_nI (by omega) (by decide)) 54 rfl dX10_after_53 ?_
      rw [(hf k hk).2]
      refine tm_istore_5 (by decide) rfl 56 rfl dX10_after_54 ?_
      refine tm_aload_0 57 rfl dX10_after_56 ?_
      refine tm_iload_4 59 rfl dX10_after_57 ?_
      refine tm_iload_5 61 rfl dX10_after_59 ?_
      refine tm_callV_I (ci := 9) (c_X10_isThere hM hσ (hx k hk)) mv_X10_isThere ml_X10_176 rfl rfl rfl rfl rfl (Nat.le_of_ble_eq_true rfl) 64 rfl dX10_after_61 ?_
      refine tm_if_eqB 123 67 rfl rfl dX10_after_64 (fun h64 => ?_) (fun h64 => ?_)
      · refine tm_iinc_3 (nI (k + 1)) (iinc1 k) (by decide) rfl 126 rfl dX10_after_123 ?_
        refine tm_goto 23 rfl dX10_after_126 ?_
        first
          | (rw [evC_n h64] at ih; exact tm_wkr ih (And.intro rfl (And.intro rfl (And.intro rfl (And.intro rfl trivial)))))
          | exact tm_wkr ih (And.intro rfl (And.intro rfl (And.intro rfl (And.intro rfl trivial))))
      · refine tm_iload_4 69 rfl dX10_after_67 ?_
        refine tm_join1 122 (nI (evC σ f h (k + 1))) ?_ (fun hJ122 => ?_)
        · refine tm_istore_2 (by decide) rfl 123 rfl dX10_after_122 ?_
          refine tm_iinc_3 (nI (k + 1)) (iinc1 k) (by decide) rfl 126 rfl dX10_after_123 ?_
          refine tm_goto 23 rfl dX10_after_126 ?_
          first
            | (rw [evC_n h64] at ih; exact tm_wkr ih (And.intro rfl (And.intro rfl (And.intro rfl (And.intro rfl trivial)))))
            | exact tm_wkr ih (And.intro rfl (And.intro rfl (And.intro rfl (And.intro rfl trivial))))
        · refine tm_if_ne 81 72 rfl rfl dX10_after_69 (fun h69 => ?_) (fun h69 => ?_)
          · refine tm_iload_4 83 rfl dX10_after_81 ?_
            refine tm_iconst (1) rfl 84 rfl dX10_after_83 ?_
            refine tm_icmp_ne 97 87 rfl rfl dX10_after_84 (fun h84 => ?_) (fun h84 => ?_)
            · refine tm_iload_4 99 rfl dX10_after_97 ?_
              refine tm_iconst (2) rfl 100 rfl dX10_after_99 ?_
              refine tm_icmp_ne 111 103 rfl rfl dX10_after_100 (fun h100 => ?_) (fun h100 => ?_)
              · have e3 : f k = 3 := by rcases in4 (hx k hk) with q | q | q | q; exact absurd q h69; exact absurd q h84; exact absurd q h100; exact q
                have h6 : evF σ 3 (h k) = true := by rw [← e3]; exact h64
                obtain ⟨j, hj, ej⟩ := inN_of h6
                rw [ej] at hJ122 ⊢
                refine tm_aload_0 112 rfl dX10_after_111 ?_
                refine tm_iload_2 113 rfl dX10_after_112 ?_
                refine tm_iload_5 115 rfl dX10_after_113 ?_
                refine tm_iload_5 117 rfl dX10_after_115 ?_
                refine tm_iconst (1) rfl 118 rfl dX10_after_117 ?_
                refine tm_iadd 119 rfl dX10_after_118 ?_
                rw [nI_1]
                refine tm_callV_I (ci := 9) (c_X10_changed hn h4 (c := evC σ f h k) (by omega) (i := j) (j := j + 1) (by omega) (by omega)) mv_X10_changed ml_X10_114 rfl rfl rfl rfl rfl (Nat.le_of_ble_eq_true rfl) 122 rfl dX10_after_119 ?_
                exact tm_top (by first | (rw [evC_y h64, h69, ej, evS_0 (by omega)]) | (rw [evC_y h64, h84, ej, evS_1 (by omega)]) | (rw [evC_y h64, h100, evS_2]) | (rw [evC_y h64, e3, ej, evS_3 (by omega)])) hJ122
              · skip
                refine tm_aload_0 104 rfl dX10_after_103 ?_
                refine tm_iload_2 105 rfl dX10_after_104 ?_
                refine tm_callV_I (ci := 9) (c_X10_dual hn h4 (c := evC σ f h k) (by omega)) mv_X10_dual ml_X10_107 rfl rfl rfl rfl rfl (Nat.le_of_ble_eq_true rfl) 108 rfl dX10_after_105 ?_
                refine tm_goto 122 rfl dX10_after_108 ?_
                exact tm_top (by first | (rw [evC_y h64, h69, ej, evS_0 (by omega)]) | (rw [evC_y h64, h84, ej, evS_1 (by omega)]) | (rw [evC_y h64, h100, evS_2]) | (rw [evC_y h64, e3, ej, evS_3 (by omega)])) hJ122
            · have h6 : evF σ 1 (h k) = true := by rw [← h84]; exact h64
              obtain ⟨j, hj, ej⟩ := inN_of h6
              rw [ej] at hJ122 ⊢
              refine tm_aload_0 88 rfl dX10_after_87 ?_
              refine tm_iload_2 89 rfl dX10_after_88 ?_
              refine tm_iload_5 91 rfl dX10_after_89 ?_
              refine tm_callV_I (ci := 9) (c_X10_turned hn h4 (c := evC σ f h k) (by omega) hj) mv_X10_turned ml_X10_110 rfl rfl rfl rfl rfl (Nat.le_of_ble_eq_true rfl) 94 rfl dX10_after_91 ?_
              refine tm_goto 122 rfl dX10_after_94 ?_
              exact tm_top (by first | (rw [evC_y h64, h69, ej, evS_0 (by omega)]) | (rw [evC_y h64, h84, ej, evS_1 (by omega)]) | (rw [evC_y h64, h100, evS_2]) | (rw [evC_y h64, e3, ej, evS_3 (by omega)])) hJ122
          · have h6 : evF σ 0 (h k) = true := by rw [← h69]; exact h64
            obtain ⟨j, hj, ej⟩ := inN_of h6
            rw [ej] at hJ122 ⊢
            refine tm_iload_2 73 rfl dX10_after_72 ?_
            refine tm_iconst (1) rfl 74 rfl dX10_after_73 ?_
            refine tm_iload_5 76 rfl dX10_after_74 ?_
            refine tm_ishl 77 rfl dX10_after_76 ?_
            rw [sh_1 j (by omega)]
            refine tm_ixor 78 rfl dX10_after_77 ?_
            rw [fb_xorI]
            refine tm_goto 122 rfl dX10_after_78 ?_
            exact tm_top (by first | (rw [evC_y h64, h69, ej, evS_0 (by omega)]) | (rw [evC_y h64, h84, ej, evS_1 (by omega)]) | (rw [evC_y h64, h100, evS_2]) | (rw [evC_y h64, e3, ej, evS_3 (by omega)])) hJ122
    · refine tm_iload_3 24 rfl dX10_after_23 ?_
      refine tm_aload_0 25 rfl dX10_after_24 ?_
      refine tm_getr fl_X10_11 rfl rfl 28 rfl dX10_after_25 ?_
      refine tm_bipush (21) (by decide) 30 rfl dX10_after_28 ?_
      refine tm_ald rfl (ix := 21) ⟨by decide, by decide, by decide⟩ 31 rfl dX10_after_30 ?_
      rw [hs]
      refine tm_icmp_ge_t 129 (nI_le (Nat.le_refl _) (by omega)) rfl dX10_after_31 ?_
      refine tm_iload_1 130 rfl dX10_after_129 ?_
      refine tm_if_ne_t 137 (by decide) rfl dX10_after_130 ?_
      refine tm_iload_1 138 rfl dX10_after_137 ?_
      refine tm_iconst (1) rfl 139 rfl dX10_after_138 ?_
      refine tm_icmp_ne_t 153 (by decide) rfl dX10_after_139 ?_
      refine tm_aload_0 154 rfl dX10_after_153 ?_
      refine tm_iload_2 155 rfl dX10_after_154 ?_
      refine tm_callV_I (ci := 9) (c_X10_dual hn h4 (c := evC σ f h s) (by omega)) mv_X10_dual ml_X10_107 rfl rfl rfl rfl rfl (Nat.le_of_ble_eq_true rfl) 158 rfl dX10_after_155 ?_
      refine tm_iload_2 159 rfl dX10_after_158 ?_
      refine tm_join2 167 (bI (decide (dlN σ.1 (evC σ f h s) = evC σ f h s))) ?_ (fun hJ167 => ?_)
      · refine tm_callS_I (c_X10_bit) ms_X10_bit ml_X10_90 rfl rfl (Nat.le_of_ble_eq_true rfl) 170 rfl dX10_after_167 ?_
        exact tm_iretR ⟨rfl, aft_2.symm, frM.rf⟩ dX10_after_170
      · refine tm_icmp_ne 166 162 rfl rfl dX10_after_159 (fun h159 => ?_) (fun h159 => ?_)
        · refine tm_iconst (0) rfl 167 rfl dX10_after_166 ?_
          exact tm_top (by first | (rw [decide_eq_true ((nI_eq (by omega) (by omega)).mp h159)]; rfl) | (rw [decide_eq_false (fun q => h159 (by rw [q]))]; rfl)) hJ167
        · refine tm_iconst (1) rfl 163 rfl dX10_after_162 ?_
          refine tm_goto 167 rfl dX10_after_163 ?_
          exact tm_top (by first | (rw [decide_eq_true ((nI_eq (by omega) (by omega)).mp h159)]; rfl) | (rw [decide_eq_false (fun q => h159 (by rw [q]))]; rfl)) hJ167
  · exact absurd h9 (by decide)

set_option maxRecDepth 100000 in
set_option maxHeartbeats 4000000 in
theorem c_X10_after_x {g : GC} {d : Nat} {M : MI} {L : ML} {σ : AS} (hM : hasM M σ) (hσ : okS σ) {x : Int32} (hx3 : ¬ inN x 3 = true) : CfI g (d + 8) yX10_after cX10_after 6 .int [rf g 54, .int x] M L (-1) (M) (L) := by
  have hn := hM.1
  have h4 := hσ.2.1
  have h16 := pow4 h4
  have hp1 := Nat.two_pow_pos σ.1
  have hc := okp hσ
  refine cfI_of (own := RX10) (l := [some (rf g 54), some (.int x), none, none, none, none]) 4 rfl rfl rfl (Nat.le_of_ble_eq_true rfl) ?_
  refine tm_iload_1 1 rfl dX10_after_0 ?_
  refine tm_i2l 2 rfl dX10_after_1 ?_
  refine tm_lconst 0 rfl 3 rfl dX10_after_2 ?_
  refine tm_ldc2 kl_X10_64 6 rfl dX10_after_3 ?_
  refine tm_callS_I (c_X10_in) ms_X10_in ml_X10_60 rfl rfl (Nat.le_of_ble_eq_true rfl) 9 rfl dX10_after_6 ?_
  rw [btw_in (N := 3) rfl]
  refine tm_if_neB 14 12 rfl rfl dX10_after_9 (fun h9 => ?_) (fun h9 => ?_)
  · exact absurd h9 hx3
  · refine tm_iconst (-1) rfl 13 rfl dX10_after_12 ?_
    exact tm_iret rfl rfl rfl dX10_after_13


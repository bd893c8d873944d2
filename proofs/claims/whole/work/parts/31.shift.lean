/-! shift, judge -/
def shA (so1 so2 : Int32) (z1 z2 : Nat) (i j n : Int32) : Int32 := if so1 = -1 ∨ so2 = -1 then -11 else if ¬ so1 = so2 then -12 else if (strB i n z1 && strB j n z2) = false then -13 else n
def shOK (so1 so2 : Int32) (z1 z2 : Nat) (i j n : Int32) : Prop := ¬ so1 = -1 ∧ ¬ so2 = -1 ∧ so1 = so2 ∧ strB i n z1 = true ∧ strB j n z2 = true
theorem sh_a {so1 so2 : Int32} {z1 z2 : Nat} {i j n : Int32} (h : so1 = -1 ∨ so2 = -1) : shA so1 so2 z1 z2 i j n = -11 := if_pos h
theorem sh_b {so1 so2 : Int32} {z1 z2 : Nat} {i j n : Int32} (h : ¬ so1 = -1) (h' : ¬ so2 = -1) (h2 : ¬ so1 = so2) : shA so1 so2 z1 z2 i j n = -12 := by unfold shA; rw [if_neg (fun q => q.elim h h'), if_pos h2]
theorem sh_c {so1 so2 : Int32} {z1 z2 : Nat} {i j n : Int32} (h : ¬ so1 = -1) (h' : ¬ so2 = -1) (h2 : so1 = so2) (h3 : strB i n z1 = false ∨ strB j n z2 = false) : shA so1 so2 z1 z2 i j n = -13 := by
  unfold shA
  rw [if_neg (fun q => q.elim h h'), if_neg (fun q => q h2), if_pos]
  rcases h3 with q | q <;> rw [q] <;> simp
theorem sh_d {so1 so2 : Int32} {z1 z2 : Nat} {i j n : Int32} (h : shOK so1 so2 z1 z2 i j n) : shA so1 so2 z1 z2 i j n = n := by
  unfold shA
  rw [if_neg (fun q => q.elim h.1 h.2.1), if_neg (fun q => q h.2.2.1), if_neg (by rw [h.2.2.2.1, h.2.2.2.2]; decide)]
theorem str_of {i n : Int32} {z : Nat} (hz : z ≤ 60) (h : strB i n z = true) : ∃ a m, i = nI a ∧ n = nI m ∧ a + m ≤ z := by
  have h1 := of_decide_eq_true h
  refine ⟨i.toInt.toNat, n.toInt.toNat, ?_, ?_, by omega⟩
  · rw [fa_eq, nI_toInt (by omega)]; omega
  · rw [fa_eq, nI_toInt (by omega)]; omega
theorem str_nI {a m z : Nat} (hz : z ≤ 60) (h : a + m ≤ z) : strB (nI a) (nI m) z = true := by
  unfold strB
  rw [nI_toInt (by omega), nI_toInt (by omega)]
  exact decide_eq_true ⟨by omega, by omega, by omega⟩
theorem str_m {i n : Int32} {z : Nat} (hz : z ≤ 60) (h1 : ¬ n < 0) (h2 : ¬ i < 0) (h : ¬ nI z - i < n) : strB i n z = true := by
  rw [fa_lt, sub_z hz h2] at h
  rw [fa_lt] at h1 h2
  have e : (0 : Int32).toInt = 0 := rfl
  exact decide_eq_true (by omega)
theorem str_f1 {i n : Int32} {z : Nat} (h : n < 0) : strB i n z = false := by
  rw [fa_lt] at h
  exact decide_eq_false (fun q => by have : (0 : Int32).toInt = 0 := rfl; omega)
theorem str_f2 {i n : Int32} {z : Nat} (h : i < 0) : strB i n z = false := by
  rw [fa_lt] at h
  exact decide_eq_false (fun q => by have : (0 : Int32).toInt = 0 := rfl; omega)
theorem str_f3 {i n : Int32} {z : Nat} (hz : z ≤ 60) (h2 : ¬ i < 0) (h : nI z - i < n) : strB i n z = false := by
  rw [fa_lt, sub_z hz h2] at h
  exact decide_eq_false (fun q => by omega)
set_option maxRecDepth 100000 in
set_option maxHeartbeats 4000000 in
theorem c_X9_shift_no {g : GC} {d : Nat} {M : MI} {L : ML} {x i y j n : Int32} (h : inN x 6 = false ∨ inN y 6 = false) : CfI g (d + 1) yX9_shift cX9_shift 8 .int [rf g 0, .int x, .int i, .int y, .int j, .int n] M L (-1) (M) (L) := by
  refine cfI_of (own := RX9) (l := [some (rf g 0), some (.int x), some (.int i), some (.int y), some (.int j), some (.int n), none, none]) 2 rfl rfl rfl (Nat.le_of_ble_eq_true rfl) ?_
  refine tm_iload_1 1 rfl dX9_shift_0 ?_
  refine tm_callS_I (c_X9_isTape) ms_X9_isTape ml_X9_293 rfl rfl (Nat.le_of_ble_eq_true rfl) 4 rfl dX9_shift_1 ?_
  refine tm_if_eqB 14 7 rfl rfl dX9_shift_4 (fun h4 => ?_) (fun h4 => ?_)
  · refine tm_iconst (-1) rfl 15 rfl dX9_shift_14 ?_
    exact tm_iret rfl rfl rfl dX9_shift_15
  · refine tm_iload_3 8 rfl dX9_shift_7 ?_
    refine tm_callS_I (c_X9_isTape) ms_X9_isTape ml_X9_293 rfl rfl (Nat.le_of_ble_eq_true rfl) 11 rfl dX9_shift_8 ?_
    refine tm_if_neB 16 14 rfl rfl dX9_shift_11 (fun h11 => ?_) (fun h11 => ?_)
    · exfalso
      rcases h with q | q
      · rw [q] at h4; cases h4
      · rw [q] at h11; cases h11
    · refine tm_iconst (-1) rfl 15 rfl dX9_shift_14 ?_
      exact tm_iret rfl rfl rfl dX9_shift_15

set_option maxRecDepth 100000 in
set_option maxHeartbeats 4000000 in
theorem c_X10_shift_no {g : GC} {d : Nat} {M : MI} {L : ML} {x i y j n : Int32} (h : inN x 6 = false ∨ inN y 6 = false) : CfI g (d + 2) yX10_shift cX10_shift 7 .int [rf g 54, .int x, .int i, .int y, .int j, .int n] M L (-1) (M) (L) := by
  refine cfI_of (own := RX10) (l := [some (rf g 54), some (.int x), some (.int i), some (.int y), some (.int j), some (.int n), none]) 1 rfl rfl rfl (Nat.le_of_ble_eq_true rfl) ?_
  refine tm_iload_1 1 rfl dX10_shift_0 ?_
  refine tm_callS_I (c_X10_isTape) ms_X10_isTape ml_X10_244 rfl rfl (Nat.le_of_ble_eq_true rfl) 4 rfl dX10_shift_1 ?_
  refine tm_if_eqB 14 7 rfl rfl dX10_shift_4 (fun h4 => ?_) (fun h4 => ?_)
  · refine tm_iconst (-1) rfl 15 rfl dX10_shift_14 ?_
    exact tm_iret rfl rfl rfl dX10_shift_15
  · refine tm_iload_3 8 rfl dX10_shift_7 ?_
    refine tm_callS_I (c_X10_isTape) ms_X10_isTape ml_X10_244 rfl rfl (Nat.le_of_ble_eq_true rfl) 11 rfl dX10_shift_8 ?_
    refine tm_if_neB 16 14 rfl rfl dX10_shift_11 (fun h11 => ?_) (fun h11 => ?_)
    · exfalso
      rcases h with q | q
      · rw [q] at h4; cases h4
      · rw [q] at h11; cases h11
    · refine tm_iconst (-1) rfl 15 rfl dX10_shift_14 ?_
      exact tm_iret rfl rfl rfl dX10_shift_15

set_option maxRecDepth 100000 in
set_option maxHeartbeats 4000000 in
theorem c_X9_shift_f {g : GC} {d : Nat} {M : MI} {L : ML} {t u z1 z2 : Nat} {so1 so2 : Int32} (ht : t < 6) (hu : u < 6) (hso : M (tJ t) 0 = so1) (hz : M (tJ t) 1 = nI z1) (hz6 : z1 ≤ 60) (hso2 : M (tJ u) 0 = so2) (hz2 : M (tJ u) 1 = nI z2) (hz62 : z2 ≤ 60) {i j n : Int32} (hno : ¬ shOK so1 so2 z1 z2 i j n) : CfI g (d + 1) yX9_shift cX9_shift 8 .int [rf g 0, .int (nI t), .int i, .int (nI u), .int j, .int n] M L (shA so1 so2 z1 z2 i j n) (M) (L) := by
  have hin : inN (nI t) 6 = true := by rw [inN_nI (by omega)]; exact decide_eq_true ht
  have hin2 : inN (nI u) 6 = true := by rw [inN_nI (by omega)]; exact decide_eq_true hu
  refine cfI_of (own := RX9) (l := [some (rf g 0), some (.int (nI t)), some (.int i), some (.int (nI u)), some (.int j), some (.int n), none, none]) 2 rfl rfl rfl (Nat.le_of_ble_eq_true rfl) ?_
  refine tm_iload_1 1 rfl dX9_shift_0 ?_
  refine tm_callS_I (c_X9_isTape) ms_X9_isTape ml_X9_293 rfl rfl (Nat.le_of_ble_eq_true rfl) 4 rfl dX9_shift_1 ?_
  refine tm_if_eq_f 7 ((bI_n0 _).mpr hin) rfl rfl dX9_shift_4 ?_
  refine tm_iload_3 8 rfl dX9_shift_7 ?_
  refine tm_callS_I (c_X9_isTape) ms_X9_isTape ml_X9_293 rfl rfl (Nat.le_of_ble_eq_true rfl) 11 rfl dX9_shift_8 ?_
  refine tm_if_ne_t 16 ((bI_n0 _).mpr hin2) rfl dX9_shift_11 ?_
  refine tm_aload_0 17 rfl dX9_shift_16 ?_
  refine tm_getr fl_X9_34 rfl rfl 20 rfl dX9_shift_17 ?_
  refine tm_iload_1 21 rfl dX9_shift_20 ?_
  refine tm_aald2 rfl (ix_nI ht (by decide)) (tp_at ht) 22 rfl dX9_shift_21 ?_
  refine tm_astore_6 (by decide) rfl 24 rfl dX9_shift_22 ?_
  refine tm_aload_0 25 rfl dX9_shift_24 ?_
  refine tm_getr fl_X9_34 rfl rfl 28 rfl dX9_shift_25 ?_
  refine tm_iload_3 29 rfl dX9_shift_28 ?_
  refine tm_aald2 rfl (ix_nI hu (by decide)) (tp_at hu) 30 rfl dX9_shift_29 ?_
  refine tm_astore_7 (by decide) rfl 32 rfl dX9_shift_30 ?_
  refine tm_aload_6 34 rfl dX9_shift_32 ?_
  refine tm_callV_I (ci := 5) (c_X6_holdsNothing (tpS ht)) mv_X6_holdsNothing ml_X9_296 rfl (tpS ht).1 rfl rfl rfl (Nat.le_of_ble_eq_true rfl) 37 rfl dX9_shift_34 ?_
  rw [hso]
  refine tm_if_neB 48 40 rfl rfl dX9_shift_37 (fun h37 => ?_) (fun h37 => ?_)
  · refine tm_bipush (-11) (by decide) 50 rfl dX9_shift_48 ?_
    exact tm_iret (by first | exact (sh_a (Or.inl (of_decide_eq_true h37))).symm | exact (sh_a (Or.inr (of_decide_eq_true h45))).symm) rfl rfl dX9_shift_50
  · refine tm_aload_7 42 rfl dX9_shift_40 ?_
    refine tm_callV_I (ci := 5) (c_X6_holdsNothing (tpS hu)) mv_X6_holdsNothing ml_X9_296 rfl (tpS hu).1 rfl rfl rfl (Nat.le_of_ble_eq_true rfl) 45 rfl dX9_shift_42 ?_
    rw [hso2]
    refine tm_if_eqB 51 48 rfl rfl dX9_shift_45 (fun h45 => ?_) (fun h45 => ?_)
    · refine tm_aload_6 53 rfl dX9_shift_51 ?_
      refine tm_geti fl_X9_300 (tpS ht).1 rfl 56 rfl dX9_shift_53 ?_
      rw [hso]
      refine tm_aload_7 58 rfl dX9_shift_56 ?_
      refine tm_geti fl_X9_300 (tpS hu).1 rfl 61 rfl dX9_shift_58 ?_
      rw [hso2]
      refine tm_icmp_eq 67 64 rfl rfl dX9_shift_61 (fun h61 => ?_) (fun h61 => ?_)
      · refine tm_aload_6 69 rfl dX9_shift_67 ?_
        refine tm_iload_2 70 rfl dX9_shift_69 ?_
        refine tm_iload_5 72 rfl dX9_shift_70 ?_
        refine tm_callV_I (ci := 5) (c_X6_hasStretch (tpS ht) hz hz6) mv_X6_hasStretch ml_X9_322 rfl (tpS ht).1 rfl rfl rfl (Nat.le_of_ble_eq_true rfl) 75 rfl dX9_shift_72 ?_
        refine tm_if_eqB 90 78 rfl rfl dX9_shift_75 (fun h75 => ?_) (fun h75 => ?_)
        · refine tm_bipush (-13) (by decide) 92 rfl dX9_shift_90 ?_
          exact tm_iret (by first | exact (sh_c (of_decide_eq_false h37) (of_decide_eq_false h45) h61 (Or.inl h75)).symm | exact (sh_c (of_decide_eq_false h37) (of_decide_eq_false h45) h61 (Or.inr h87)).symm) rfl rfl dX9_shift_92
        · refine tm_aload_7 80 rfl dX9_shift_78 ?_
          refine tm_iload_4 82 rfl dX9_shift_80 ?_
          refine tm_iload_5 84 rfl dX9_shift_82 ?_
          refine tm_callV_I (ci := 5) (c_X6_hasStretch (tpS hu) hz2 hz62) mv_X6_hasStretch ml_X9_322 rfl (tpS hu).1 rfl rfl rfl (Nat.le_of_ble_eq_true rfl) 87 rfl dX9_shift_84 ?_
          refine tm_if_neB 93 90 rfl rfl dX9_shift_87 (fun h87 => ?_) (fun h87 => ?_)
          · exact absurd ⟨of_decide_eq_false h37, of_decide_eq_false h45, h61, h75, h87⟩ hno
          · refine tm_bipush (-13) (by decide) 92 rfl dX9_shift_90 ?_
            exact tm_iret (by first | exact (sh_c (of_decide_eq_false h37) (of_decide_eq_false h45) h61 (Or.inl h75)).symm | exact (sh_c (of_decide_eq_false h37) (of_decide_eq_false h45) h61 (Or.inr h87)).symm) rfl rfl dX9_shift_92
      · refine tm_bipush (-12) (by decide) 66 rfl dX9_shift_64 ?_
        exact tm_iret (sh_b (of_decide_eq_false h37) (of_decide_eq_false h45) h61).symm rfl rfl dX9_shift_66
    · refine tm_bipush (-11) (by decide) 50 rfl dX9_shift_48 ?_
      exact tm_iret (by first | exact (sh_a (Or.inl (of_decide_eq_true h37))).symm | exact (sh_a (Or.inr (of_decide_eq_true h45))).symm) rfl rfl dX9_shift_50

set_option maxRecDepth 100000 in
set_option maxHeartbeats 4000000 in
theorem c_X9_shift_y {g : GC} {d : Nat} {M : MI} {L : ML} {t u z1 z2 : Nat} {so1 so2 : Int32} (ht : t < 6) (hu : u < 6) (hso : M (tJ t) 0 = so1) (hz : M (tJ t) 1 = nI z1) (hz6 : z1 ≤ 60) (hso2 : M (tJ u) 0 = so2) (hz2 : M (tJ u) 1 = nI z2) (hz62 : z2 ≤ 60) {a b m : Nat} (h1 : ¬ so1 = -1) (h2 : ¬ so2 = -1) (h3 : so1 = so2) (ha : a + m ≤ z1) (hb : b + m ≤ z2) : CfI g (d + 1) yX9_shift cX9_shift 8 .int [rf g 0, .int (nI t), .int (nI a), .int (nI u), .int (nI b), .int (nI m)] M L (nI m) (M) (srL L (tJ u + 1) (va_cpy (L (tJ t + 1)) (L (tJ u + 1)) a b m)) := by
  have hin : inN (nI t) 6 = true := by rw [inN_nI (by omega)]; exact decide_eq_true ht
  have hin2 : inN (nI u) 6 = true := by rw [inN_nI (by omega)]; exact decide_eq_true hu
  refine cfI_of (own := RX9) (l := [some (rf g 0), some (.int (nI t)), some (.int (nI a)), some (.int (nI u)), some (.int (nI b)), some (.int (nI m)), none, none]) 2 rfl rfl rfl (Nat.le_of_ble_eq_true rfl) ?_
  refine tm_iload_1 1 rfl dX9_shift_0 ?_
  refine tm_callS_I (c_X9_isTape) ms_X9_isTape ml_X9_293 rfl rfl (Nat.le_of_ble_eq_true rfl) 4 rfl dX9_shift_1 ?_
  refine tm_if_eq_f 7 ((bI_n0 _).mpr hin) rfl rfl dX9_shift_4 ?_
  refine tm_iload_3 8 rfl dX9_shift_7 ?_
  refine tm_callS_I (c_X9_isTape) ms_X9_isTape ml_X9_293 rfl rfl (Nat.le_of_ble_eq_true rfl) 11 rfl dX9_shift_8 ?_
  refine tm_if_ne_t 16 ((bI_n0 _).mpr hin2) rfl dX9_shift_11 ?_
  refine tm_aload_0 17 rfl dX9_shift_16 ?_
  refine tm_getr fl_X9_34 rfl rfl 20 rfl dX9_shift_17 ?_
  refine tm_iload_1 21 rfl dX9_shift_20 ?_
  refine tm_aald2 rfl (ix_nI ht (by decide)) (tp_at ht) 22 rfl dX9_shift_21 ?_
  refine tm_astore_6 (by decide) rfl 24 rfl dX9_shift_22 ?_
  refine tm_aload_0 25 rfl dX9_shift_24 ?_
  refine tm_getr fl_X9_34 rfl rfl 28 rfl dX9_shift_25 ?_
  refine tm_iload_3 29 rfl dX9_shift_28 ?_
  refine tm_aald2 rfl (ix_nI hu (by decide)) (tp_at hu) 30 rfl dX9_shift_29 ?_
  refine tm_astore_7 (by decide) rfl 32 rfl dX9_shift_30 ?_
  refine tm_aload_6 34 rfl dX9_shift_32 ?_
  refine tm_callV_I (ci := 5) (c_X6_holdsNothing (tpS ht)) mv_X6_holdsNothing ml_X9_296 rfl (tpS ht).1 rfl rfl rfl (Nat.le_of_ble_eq_true rfl) 37 rfl dX9_shift_34 ?_
  rw [hso]
  refine tm_if_ne_f 40 (by rw [decide_eq_false h1]; rfl) rfl rfl dX9_shift_37 ?_
  refine tm_aload_7 42 rfl dX9_shift_40 ?_
  refine tm_callV_I (ci := 5) (c_X6_holdsNothing (tpS hu)) mv_X6_holdsNothing ml_X9_296 rfl (tpS hu).1 rfl rfl rfl (Nat.le_of_ble_eq_true rfl) 45 rfl dX9_shift_42 ?_
  rw [hso2]
  refine tm_if_eq_t 51 (by rw [decide_eq_false h2]; rfl) rfl dX9_shift_45 ?_
  refine tm_aload_6 53 rfl dX9_shift_51 ?_
  refine tm_geti fl_X9_300 (tpS ht).1 rfl 56 rfl dX9_shift_53 ?_
  rw [hso]
  refine tm_aload_7 58 rfl dX9_shift_56 ?_
  refine tm_geti fl_X9_300 (tpS hu).1 rfl 61 rfl dX9_shift_58 ?_
  rw [hso2]
  refine tm_icmp_eq_t 67 (h3) rfl dX9_shift_61 ?_
  refine tm_aload_6 69 rfl dX9_shift_67 ?_
  refine tm_iload_2 70 rfl dX9_shift_69 ?_
  refine tm_iload_5 72 rfl dX9_shift_70 ?_
  refine tm_callV_I (ci := 5) (c_X6_hasStretch (tpS ht) hz hz6) mv_X6_hasStretch ml_X9_322 rfl (tpS ht).1 rfl rfl rfl (Nat.le_of_ble_eq_true rfl) 75 rfl dX9_shift_72 ?_
  refine tm_if_eq_f 78 (by rw [str_nI hz6 ha]; decide) rfl rfl dX9_shift_75 ?_
  refine tm_aload_7 80 rfl dX9_shift_78 ?_
  refine tm_iload_4 82 rfl dX9_shift_80 ?_
  refine tm_iload_5 84 rfl dX9_shift_82 ?_
  refine tm_callV_I (ci := 5) (c_X6_hasStretch (tpS hu) hz2 hz62) mv_X6_hasStretch ml_X9_322 rfl (tpS hu).1 rfl rfl rfl (Nat.le_of_ble_eq_true rfl) 87 rfl dX9_shift_84 ?_
  refine tm_if_ne_t 93 (by rw [str_nI hz62 hb]; decide) rfl dX9_shift_87 ?_
  refine tm_aload_6 95 rfl dX9_shift_93 ?_
  refine tm_getr fl_X9_304 (tpS ht).1 rfl 98 rfl dX9_shift_95 ?_
  refine tm_iload_2 99 rfl dX9_shift_98 ?_
  refine tm_aload_7 101 rfl dX9_shift_99 ?_
  refine tm_getr fl_X9_304 (tpS hu).1 rfl 104 rfl dX9_shift_101 ?_
  refine tm_iload_4 106 rfl dX9_shift_104 ?_
  refine tm_iload_5 108 rfl dX9_shift_106 ?_
  refine tm_cpL (ls_ := a) (ld := b) (ln := m) ml_X9_325 (tpS ht).2 (tpS hu).2 ⟨nI_pos (by omega), nI_clamp (by omega)⟩ ⟨nI_pos (by omega), nI_clamp (by omega)⟩ ⟨nI_pos (by omega), nI_clamp (by omega)⟩ (by omega) (by omega) (Nat.le_of_ble_eq_true rfl) 111 rfl dX9_shift_108 ?_
  refine tm_iload_5 113 rfl dX9_shift_111 ?_
  exact tm_iret rfl rfl rfl dX9_shift_113

set_option maxRecDepth 100000 in
set_option maxHeartbeats 4000000 in
theorem c_X10_shift_f {g : GC} {d : Nat} {M : MI} {L : ML} {t u z1 z2 : Nat} {so1 so2 : Int32} (ht : t < 6) (hu : u < 6) (hso : M 63 t = so1) (hz : M 64 t = nI z1) (hz6 : z1 ≤ 60) (hs5 : soOK so1) (hso2 : M 63 u = so2) (hz2 : M 64 u = nI z2) (hz62 : z2 ≤ 60) (hs52 : soOK so2) {i j n : Int32} (hno : ¬ shOK so1 so2 z1 z2 i j n) : CfI g (d + 2) yX10_shift cX10_shift 7 .int [rf g 54, .int (nI t), .int i, .int (nI u), .int j, .int n] M L (shA so1 so2 z1 z2 i j n) (M) (L) := by
  have hin : inN (nI t) 6 = true := by rw [inN_nI (by omega)]; exact decide_eq_true ht
  have hin2 : inN (nI u) 6 = true := by rw [inN_nI (by omega)]; exact decide_eq_true hu
  refine cfI_of (own := RX10) (l := [some (rf g 54), some (.int (nI t)), some (.int i), some (.int (nI u)), some (.int j), some (.int n), none]) 1 rfl rfl rfl (Nat.le_of_ble_eq_true rfl) ?_
  refine tm_iload_1 1 rfl dX10_shift_0 ?_
  refine tm_callS_I (c_X10_isTape) ms_X10_isTape ml_X10_244 rfl rfl (Nat.le_of_ble_eq_true rfl) 4 rfl dX10_shift_1 ?_
  refine tm_if_eq_f 7 ((bI_n0 _).mpr hin) rfl rfl dX10_shift_4 ?_
  refine tm_iload_3 8 rfl dX10_shift_7 ?_
  refine tm_callS_I (c_X10_isTape) ms_X10_isTape ml_X10_244 rfl rfl (Nat.le_of_ble_eq_true rfl) 11 rfl dX10_shift_8 ?_
  refine tm_if_ne_t 16 ((bI_n0 _).mpr hin2) rfl dX10_shift_11 ?_
  refine tm_aload_0 17 rfl dX10_shift_16 ?_
  refine tm_getr fl_X10_37 rfl rfl 20 rfl dX10_shift_17 ?_
  refine tm_iload_1 21 rfl dX10_shift_20 ?_
  refine tm_ald rfl (ix := t) (ix_nI ht (by decide)) 22 rfl dX10_shift_21 ?_
  rw [hso]
  refine tm_if_lt 34 25 rfl rfl dX10_shift_22 (fun h22 => ?_) (fun h22 => ?_)
  · refine tm_bipush (-11) (by decide) 36 rfl dX10_shift_34 ?_
    exact tm_iret (by first | exact (sh_a (Or.inl ((so_lt hs5).mp h22))).symm | exact (sh_a (Or.inr ((so_lt hs52).mp (fa_of_nle h31)))).symm) rfl rfl dX10_shift_36
  · refine tm_aload_0 26 rfl dX10_shift_25 ?_
    refine tm_getr fl_X10_37 rfl rfl 29 rfl dX10_shift_26 ?_
    refine tm_iload_3 30 rfl dX10_shift_29 ?_
    refine tm_ald rfl (ix := u) (ix_nI hu (by decide)) 31 rfl dX10_shift_30 ?_
    rw [hso2]
    refine tm_if_ge 37 34 rfl rfl dX10_shift_31 (fun h31 => ?_) (fun h31 => ?_)
    · refine tm_aload_0 38 rfl dX10_shift_37 ?_
      refine tm_getr fl_X10_37 rfl rfl 41 rfl dX10_shift_38 ?_
      refine tm_iload_1 42 rfl dX10_shift_41 ?_
      refine tm_ald rfl (ix := t) (ix_nI ht (by decide)) 43 rfl dX10_shift_42 ?_
      rw [hso]
      refine tm_aload_0 44 rfl dX10_shift_43 ?_
      refine tm_getr fl_X10_37 rfl rfl 47 rfl dX10_shift_44 ?_
      refine tm_iload_3 48 rfl dX10_shift_47 ?_
      refine tm_ald rfl (ix := u) (ix_nI hu (by decide)) 49 rfl dX10_shift_48 ?_
      rw [hso2]
      refine tm_icmp_eq 55 52 rfl rfl dX10_shift_49 (fun h49 => ?_) (fun h49 => ?_)
      · refine tm_iload_5 57 rfl dX10_shift_55 ?_
        refine tm_if_lt 96 60 rfl rfl dX10_shift_57 (fun h57 => ?_) (fun h57 => ?_)
        · refine tm_bipush (-13) (by decide) 98 rfl dX10_shift_96 ?_
          exact tm_iret (by have e1 : ¬ so1 = -1 := fun q => h22 ((so_lt hs5).mpr q); have e2 : ¬ so2 = -1 := fun q => nlt_ge h31 ((so_lt hs52).mpr q); first | exact (sh_c e1 e2 h49 (Or.inl (str_f1 h57))).symm | exact (sh_c e1 e2 h49 (Or.inl (str_f2 h61))).symm | exact (sh_c e1 e2 h49 (Or.inr (str_f2 h66))).symm | exact (sh_c e1 e2 h49 (Or.inl (str_f3 hz6 h61 h79))).symm | exact (sh_c e1 e2 h49 (Or.inr (str_f3 hz62 h66 (fa_of_nle h93)))).symm) rfl rfl dX10_shift_98
        · refine tm_iload_2 61 rfl dX10_shift_60 ?_
          refine tm_if_lt 96 64 rfl rfl dX10_shift_61 (fun h61 => ?_) (fun h61 => ?_)
          · refine tm_bipush (-13) (by decide) 98 rfl dX10_shift_96 ?_
            exact tm_iret (by have e1 : ¬ so1 = -1 := fun q => h22 ((so_lt hs5).mpr q); have e2 : ¬ so2 = -1 := fun q => nlt_ge h31 ((so_lt hs52).mpr q); first | exact (sh_c e1 e2 h49 (Or.inl (str_f1 h57))).symm | exact (sh_c e1 e2 h49 (Or.inl (str_f2 h61))).symm | exact (sh_c e1 e2 h49 (Or.inr (str_f2 h66))).symm | exact (sh_c e1 e2 h49 (Or.inl (str_f3 hz6 h61 h79))).symm | exact (sh_c e1 e2 h49 (Or.inr (str_f3 hz62 h66 (fa_of_nle h93)))).symm) rfl rfl dX10_shift_98
          · refine tm_iload_4 66 rfl dX10_shift_64 ?_
            refine tm_if_lt 96 69 rfl rfl dX10_shift_66 (fun h66 => ?_) (fun h66 => ?_)
            · refine tm_bipush (-13) (by decide) 98 rfl dX10_shift_96 ?_
              exact tm_iret (by have e1 : ¬ so1 = -1 := fun q => h22 ((so_lt hs5).mpr q); have e2 : ¬ so2 = -1 := fun q => nlt_ge h31 ((so_lt hs52).mpr q); first | exact (sh_c e1 e2 h49 (Or.inl (str_f1 h57))).symm | exact (sh_c e1 e2 h49 (Or.inl (str_f2 h61))).symm | exact (sh_c e1 e2 h49 (Or.inr (str_f2 h66))).symm | exact (sh_c e1 e2 h49 (Or.inl (str_f3 hz6 h61 h79))).symm | exact (sh_c e1 e2 h49 (Or.inr (str_f3 hz62 h66 (fa_of_nle h93)))).symm) rfl rfl dX10_shift_98
            · refine tm_iload_5 71 rfl dX10_shift_69 ?_
              refine tm_aload_0 72 rfl dX10_shift_71 ?_
              refine tm_getr fl_X10_40 rfl rfl 75 rfl dX10_shift_72 ?_
              refine tm_iload_1 76 rfl dX10_shift_75 ?_
              refine tm_ald rfl (ix := t) (ix_nI ht (by decide)) 77 rfl dX10_shift_76 ?_
              rw [hz]
              refine tm_iload_2 78 rfl dX10_shift_77 ?_
              refine tm_isub 79 rfl dX10_shift_78 ?_
              refine tm_icmp_gt 96 82 rfl rfl dX10_shift_79 (fun h79 => ?_) (fun h79 => ?_)
              · refine tm_bipush (-13) (by decide) 98 rfl dX10_shift_96 ?_
                exact tm_iret (by have e1 : ¬ so1 = -1 := fun q => h22 ((so_lt hs5).mpr q); have e2 : ¬ so2 = -1 := fun q => nlt_ge h31 ((so_lt hs52).mpr q); first | exact (sh_c e1 e2 h49 (Or.inl (str_f1 h57))).symm | exact (sh_c e1 e2 h49 (Or.inl (str_f2 h61))).symm | exact (sh_c e1 e2 h49 (Or.inr (str_f2 h66))).symm | exact (sh_c e1 e2 h49 (Or.inl (str_f3 hz6 h61 h79))).symm | exact (sh_c e1 e2 h49 (Or.inr (str_f3 hz62 h66 (fa_of_nle h93)))).symm) rfl rfl dX10_shift_98
              · refine tm_iload_5 84 rfl dX10_shift_82 ?_
                refine tm_aload_0 85 rfl dX10_shift_84 ?_
                refine tm_getr fl_X10_40 rfl rfl 88 rfl dX10_shift_85 ?_
                refine tm_iload_3 89 rfl dX10_shift_88 ?_
                refine tm_ald rfl (ix := u) (ix_nI hu (by decide)) 90 rfl dX10_shift_89 ?_
                rw [hz2]
                refine tm_iload_4 92 rfl dX10_shift_90 ?_
                refine tm_isub 93 rfl dX10_shift_92 ?_
                refine tm_icmp_le 99 96 rfl rfl dX10_shift_93 (fun h93 => ?_) (fun h93 => ?_)
                · exact absurd ⟨fun q => h22 ((so_lt hs5).mpr q), fun q => nlt_ge h31 ((so_lt hs52).mpr q), h49, str_m hz6 h57 h61 h79, str_m hz62 h57 h66 (nlt_ge h93)⟩ hno
                · refine tm_bipush (-13) (by decide) 98 rfl dX10_shift_96 ?_
                  exact tm_iret (by have e1 : ¬ so1 = -1 := fun q => h22 ((so_lt hs5).mpr q); have e2 : ¬ so2 = -1 := fun q => nlt_ge h31 ((so_lt hs52).mpr q); first | exact (sh_c e1 e2 h49 (Or.inl (str_f1 h57))).symm | exact (sh_c e1 e2 h49 (Or.inl (str_f2 h61))).symm | exact (sh_c e1 e2 h49 (Or.inr (str_f2 h66))).symm | exact (sh_c e1 e2 h49 (Or.inl (str_f3 hz6 h61 h79))).symm | exact (sh_c e1 e2 h49 (Or.inr (str_f3 hz62 h66 (fa_of_nle h93)))).symm) rfl rfl dX10_shift_98
      · refine tm_bipush (-12) (by decide) 54 rfl dX10_shift_52 ?_
        exact tm_iret (sh_b (fun q => h22 ((so_lt hs5).mpr q)) (fun q => nlt_ge h31 ((so_lt hs52).mpr q)) h49).symm rfl rfl dX10_shift_54
    · refine tm_bipush (-11) (by decide) 36 rfl dX10_shift_34 ?_
      exact tm_iret (by first | exact (sh_a (Or.inl ((so_lt hs5).mp h22))).symm | exact (sh_a (Or.inr ((so_lt hs52).mp (fa_of_nle h31)))).symm) rfl rfl dX10_shift_36

def bL (L : ML) (c a k : Nat) : ML := srL L 66 (fun q => if q < k then L c (a + q) else L 66 q)
theorem bL_0 (L : ML) (c a : Nat) : bL L c a 0 = L := by
  unfold bL
  have e : (fun q => if q < 0 then L c (a + q) else L 66 q) = L 66 := by funext q; simp
  rw [e, srL_self]
theorem bL_ne {L : ML} {c a k i : Nat} (h : i ≠ 66) : bL L c a k i = L i := srL_ne h
theorem bL_66 (L : ML) (c a k : Nat) : bL L c a k 66 = (fun q => if q < k then L c (a + q) else L 66 q) := srL_eq _ _ _
theorem updLif (f w : Nat → Int64) (k : Nat) : vp_updL (fun u => if u < k then w u else f u) k (w k) = (fun u => if u < k + 1 then w u else f u) := by
  funext j
  unfold vp_updL
  by_cases q : j = k
  · subst q; simp
  · by_cases q2 : j < k
    · simp [q, q2, show j < k + 1 by omega]
    · simp [q, q2, show ¬ j < k + 1 by omega]
theorem bL_s (L : ML) (c a k : Nat) : s1L (bL L c a k) 66 k (L c (a + k)) = bL L c a (k + 1) := by
  unfold s1L
  rw [bL_66, updLif (L 66) (fun q => L c (a + q)) k]
  unfold bL
  funext i
  by_cases h : i = 66
  · subst h; rw [srL_eq, srL_eq]
  · rw [srL_ne h, srL_ne h, srL_ne h]
/-- the second loop: row c gets row 66 from b on -/
def dL (L : ML) (c b k : Nat) : ML := srL L c (fun q => if b ≤ q ∧ q < b + k then L 66 (q - b) else L c q)
theorem dL_0 (L : ML) (c b : Nat) : dL L c b 0 = L := by
  unfold dL
  have e : (fun q => if b ≤ q ∧ q < b + 0 then L 66 (q - b) else L c q) = L c := by funext q; exact if_neg (by omega)
  rw [e, srL_self]
theorem dL_ne {L : ML} {c b k i : Nat} (h : i ≠ c) : dL L c b k i = L i := srL_ne h
theorem dL_s (L : ML) (c b k : Nat) : s1L (dL L c b k) c (b + k) (L 66 k) = dL L c b (k + 1) := by
  unfold s1L dL
  rw [srL_eq]
  funext i
  by_cases h : i = c
  · subst h
    rw [srL_eq, srL_eq]
    funext q
    unfold vp_updL
    by_cases e : q = b + k
    · subst e
      rw [if_pos rfl, if_pos (by omega), show b + k - b = k by omega]
    · rw [if_neg e]
      show (if b ≤ q ∧ q < b + k then _ else _) = _
      by_cases e2 : b ≤ q ∧ q < b + k
      · rw [if_pos e2, if_pos (by omega)]
      · rw [if_neg e2, if_neg (by omega)]
  · rw [srL_ne h, srL_ne h, srL_ne h]
theorem tM66 (t : Nat) : tM t ≠ 66 := by show 67 + t ≠ 66; omega
set_option maxRecDepth 100000 in
set_option maxHeartbeats 4000000 in
theorem c_X10_shift_y {g : GC} {d : Nat} {M : MI} {L : ML} {t u z1 z2 : Nat} {so1 so2 : Int32} (ht : t < 6) (hu : u < 6) (hso : M 63 t = so1) (hz : M 64 t = nI z1) (hz6 : z1 ≤ 60) (hs5 : soOK so1) (hso2 : M 63 u = so2) (hz2 : M 64 u = nI z2) (hz62 : z2 ≤ 60) (hs52 : soOK so2) {a b m : Nat} (h1 : ¬ so1 = -1) (h2 : ¬ so2 = -1) (h3 : so1 = so2) (ha : a + m ≤ z1) (hb : b + m ≤ z2) : CfI g (d + 2) yX10_shift cX10_shift 7 .int [rf g 54, .int (nI t), .int (nI a), .int (nI u), .int (nI b), .int (nI m)] M L (nI m) (M) (dL (bL L (tM t) a m) (tM u) b m) := by
  have hin : inN (nI t) 6 = true := by rw [inN_nI (by omega)]; exact decide_eq_true ht
  have hin2 : inN (nI u) 6 = true := by rw [inN_nI (by omega)]; exact decide_eq_true hu
  have e0 : (0 : Int32).toInt = 0 := rfl
  refine cfI_of (own := RX10) (l := [some (rf g 54), some (.int (nI t)), some (.int (nI a)), some (.int (nI u)), some (.int (nI b)), some (.int (nI m)), none]) 1 rfl rfl rfl (Nat.le_of_ble_eq_true rfl) ?_
  refine tm_iload_1 1 rfl dX10_shift_0 ?_
  refine tm_callS_I (c_X10_isTape) ms_X10_isTape ml_X10_244 rfl rfl (Nat.le_of_ble_eq_true rfl) 4 rfl dX10_shift_1 ?_
  refine tm_if_eq_f 7 ((bI_n0 _).mpr hin) rfl rfl dX10_shift_4 ?_
  refine tm_iload_3 8 rfl dX10_shift_7 ?_
  refine tm_callS_I (c_X10_isTape) ms_X10_isTape ml_X10_244 rfl rfl (Nat.le_of_ble_eq_true rfl) 11 rfl dX10_shift_8 ?_
  refine tm_if_ne_t 16 ((bI_n0 _).mpr hin2) rfl dX10_shift_11 ?_
  refine tm_aload_0 17 rfl dX10_shift_16 ?_
  refine tm_getr fl_X10_37 rfl rfl 20 rfl dX10_shift_17 ?_
  refine tm_iload_1 21 rfl dX10_shift_20 ?_
  refine tm_ald rfl (ix := t) (ix_nI ht (by decide)) 22 rfl dX10_shift_21 ?_
  rw [hso]
  refine tm_if_lt_f 25 (fun q => h1 ((so_lt hs5).mp q)) rfl rfl dX10_shift_22 ?_
  refine tm_aload_0 26 rfl dX10_shift_25 ?_
  refine tm_getr fl_X10_37 rfl rfl 29 rfl dX10_shift_26 ?_
  refine tm_iload_3 30 rfl dX10_shift_29 ?_
  refine tm_ald rfl (ix := u) (ix_nI hu (by decide)) 31 rfl dX10_shift_30 ?_
  rw [hso2]
  refine tm_if_ge_t 37 (fa_of_nlt (fun q => h2 ((so_lt hs52).mp q))) rfl dX10_shift_31 ?_
  refine tm_aload_0 38 rfl dX10_shift_37 ?_
  refine tm_getr fl_X10_37 rfl rfl 41 rfl dX10_shift_38 ?_
  refine tm_iload_1 42 rfl dX10_shift_41 ?_
  refine tm_ald rfl (ix := t) (ix_nI ht (by decide)) 43 rfl dX10_shift_42 ?_
  rw [hso]
  refine tm_aload_0 44 rfl dX10_shift_43 ?_
  refine tm_getr fl_X10_37 rfl rfl 47 rfl dX10_shift_44 ?_
  refine tm_iload_3 48 rfl dX10_shift_47 ?_
  refine tm_ald rfl (ix := u) (ix_nI hu (by decide)) 49 rfl dX10_shift_48 ?_
  rw [hso2]
  refine tm_icmp_eq_t 55 (h3) rfl dX10_shift_49 ?_
  refine tm_iload_5 57 rfl dX10_shift_55 ?_
  refine tm_if_lt_f 60 (nI_pos (by omega)) rfl rfl dX10_shift_57 ?_
  refine tm_iload_2 61 rfl dX10_shift_60 ?_
  refine tm_if_lt_f 64 (nI_pos (by omega)) rfl rfl dX10_shift_61 ?_
  refine tm_iload_4 66 rfl dX10_shift_64 ?_
  refine tm_if_lt_f 69 (nI_pos (by omega)) rfl rfl dX10_shift_66 ?_
  refine tm_iload_5 71 rfl dX10_shift_69 ?_
  refine tm_aload_0 72 rfl dX10_shift_71 ?_
  refine tm_getr fl_X10_40 rfl rfl 75 rfl dX10_shift_72 ?_
  refine tm_iload_1 76 rfl dX10_shift_75 ?_
  refine tm_ald rfl (ix := t) (ix_nI ht (by decide)) 77 rfl dX10_shift_76 ?_
  rw [hz]
  refine tm_iload_2 78 rfl dX10_shift_77 ?_
  refine tm_isub 79 rfl dX10_shift_78 ?_
  refine tm_icmp_gt_f 82 (by rw [fa_lt, sub_z hz6 (nI_pos (by omega)), nI_toInt (by omega), nI_toInt (by omega)]; omega) rfl rfl dX10_shift_79 ?_
  refine tm_iload_5 84 rfl dX10_shift_82 ?_
  refine tm_aload_0 85 rfl dX10_shift_84 ?_
  refine tm_getr fl_X10_40 rfl rfl 88 rfl dX10_shift_85 ?_
  refine tm_iload_3 89 rfl dX10_shift_88 ?_
  refine tm_ald rfl (ix := u) (ix_nI hu (by decide)) 90 rfl dX10_shift_89 ?_
  rw [hz2]
  refine tm_iload_4 92 rfl dX10_shift_90 ?_
  refine tm_isub 93 rfl dX10_shift_92 ?_
  refine tm_icmp_le_t 99 (by rw [fa_le, sub_z hz62 (nI_pos (by omega)), nI_toInt (by omega), nI_toInt (by omega)]; omega) rfl dX10_shift_93 ?_
  refine tm_iconst (0) rfl 100 rfl dX10_shift_99 ?_
  refine tm_istore_6 (by decide) rfl 102 rfl dX10_shift_100 ?_
  refine tm_mem rfl (bL_0 L (tM t) a) ?_
  refine tm_loop (N := m) (fun k => Tm g (d + 2) RX10 cX10_shift 7 (some .int) (QI g (nI m) (M) (dL (bL L (tM t) a m) (tM u) b m)) 102 [some (rf g 54), some (.int (nI t)), some (.int (nI a)), some (.int (nI u)), some (.int (nI b)), some (.int (nI m)), some (.int (nI k))] [] (M) (bL L (tM t) a k)) (fun k hk ih => ?_) ?_
  · refine tm_iload_6 104 rfl dX10_shift_102 ?_
    refine tm_iload_5 106 rfl dX10_shift_104 ?_
    refine tm_icmp_ge_f 109 (nI_ge hk (by omega)) rfl rfl dX10_shift_106 ?_
    refine tm_aload_0 110 rfl dX10_shift_109 ?_
    refine tm_getr fl_X10_48 rfl rfl 113 rfl dX10_shift_110 ?_
    refine tm_iload_6 115 rfl dX10_shift_113 ?_
    refine tm_aload_0 116 rfl dX10_shift_115 ?_
    refine tm_getr fl_X10_45 rfl rfl 119 rfl dX10_shift_116 ?_
    refine tm_iload_1 120 rfl dX10_shift_119 ?_
    refine tm_aald3 rfl (ix_nI ht (by decide)) (mp_at ht) 121 rfl dX10_shift_120 ?_
    refine tm_iload_2 122 rfl dX10_shift_121 ?_
    refine tm_iload_6 124 rfl dX10_shift_122 ?_
    refine tm_iadd 125 rfl dX10_shift_124 ?_
    rw [nI_add]
    refine tm_lald (mpS ht) (ix := a + k) (ix_nI (by omega) (by decide)) 126 rfl dX10_shift_125 ?_
    refine tm_last rfl (ix := k) (ix_nI (by omega) (by decide)) 127 rfl dX10_shift_126 ?_
    refine tm_iinc_6 (nI (k + 1)) (iinc1 k) (by decide) rfl 130 rfl dX10_shift_127 ?_
    refine tm_goto 102 rfl dX10_shift_130 ?_
    rw [bL_ne (tM66 t), bL_s]
    exact ih
  · refine tm_iload_6 104 rfl dX10_shift_102 ?_
    refine tm_iload_5 106 rfl dX10_shift_104 ?_
    refine tm_icmp_ge_t 133 (nI_le (Nat.le_refl _) (by omega)) rfl dX10_shift_106 ?_
    refine tm_iconst (0) rfl 134 rfl dX10_shift_133 ?_
    refine tm_istore_6 (by decide) rfl 136 rfl dX10_shift_134 ?_
    refine tm_mem rfl (dL_0 (bL L (tM t) a m) (tM u) b) ?_
    refine tm_loop (N := m) (fun k => Tm g (d + 2) RX10 cX10_shift 7 (some .int) (QI g (nI m) (M) (dL (bL L (tM t) a m) (tM u) b m)) 136 [some (rf g 54), some (.int (nI t)), some (.int (nI a)), some (.int (nI u)), some (.int (nI b)), some (.int (nI m)), some (.int (nI k))] [] (M) (dL (bL L (tM t) a m) (tM u) b k)) (fun k hk ih => ?_) ?_
    · refine tm_iload_6 138 rfl dX10_shift_136 ?_
      refine tm_iload_5 140 rfl dX10_shift_138 ?_
      refine tm_icmp_ge_f 143 (nI_ge hk (by omega)) rfl rfl dX10_shift_140 ?_
      refine tm_aload_0 144 rfl dX10_shift_143 ?_
      refine tm_getr fl_X10_45 rfl rfl 147 rfl dX10_shift_144 ?_
      refine tm_iload_3 148 rfl dX10_shift_147 ?_
      refine tm_aald3 rfl (ix_nI hu (by decide)) (mp_at hu) 149 rfl dX10_shift_148 ?_
      refine tm_iload_4 151 rfl dX10_shift_149 ?_
      refine tm_iload_6 153 rfl dX10_shift_151 ?_
      refine tm_iadd 154 rfl dX10_shift_153 ?_
      rw [nI_add]
      refine tm_aload_0 155 rfl dX10_shift_154 ?_
      refine tm_getr fl_X10_48 rfl rfl 158 rfl dX10_shift_155 ?_
      refine tm_iload_6 160 rfl dX10_shift_158 ?_
      refine tm_lald rfl (ix := k) (ix_nI (by omega) (by decide)) 161 rfl dX10_shift_160 ?_
      refine tm_last (mpS hu) (ix := b + k) (ix_nI (by omega) (by decide)) 162 rfl dX10_shift_161 ?_
      refine tm_iinc_6 (nI (k + 1)) (iinc1 k) (by decide) rfl 165 rfl dX10_shift_162 ?_
      refine tm_goto 136 rfl dX10_shift_165 ?_
      rw [dL_ne (tM66 u).symm, dL_s]
      exact ih
    · refine tm_iload_6 138 rfl dX10_shift_136 ?_
      refine tm_iload_5 140 rfl dX10_shift_138 ?_
      refine tm_icmp_ge_t 168 (nI_le (Nat.le_refl _) (by omega)) rfl dX10_shift_140 ?_
      refine tm_iload_5 170 rfl dX10_shift_168 ?_
      exact tm_iret rfl rfl rfl dX10_shift_170

def jgB (z : Nat) (i : Int32) (k : Nat) : Bool := decide (i < 0 ∨ nI z - nI k ≤ i)
def jgP (c z : Nat) (r : Nat → Int64) (i : Int32) (k : Nat) : Bool := jgB z i k || decide (¬ r (iN i + k) = (bI (c.testBit k)).toInt64)
def jgV (z : Nat) (i : Int32) (k : Nat) : Int32 := if jgB z i k = true then 100 + nI k else nI k
def ansJg (n c z : Nat) (r : Nat → Int64) (i : Int32) : Int32 := if fa_first (jgP c z r i) (2 ^ n) < 2 ^ n then jgV z i (fa_first (jgP c z r i) (2 ^ n)) else -5
def jgA (n c z : Nat) (so : Int32) (r : Nat → Int64) (i : Int32) : Int32 := if so = -1 then 100 else if ¬ so = 4 then -12 else ansJg n c z r i
theorem jg_1 {n c z k : Nat} {r : Nat → Int64} {i : Int32} (hk : k < 2 ^ n) (h : jgB z i k = true) (hP : ∀ j, j < k → jgP c z r i j = false) : 100 + nI k = ansJg n c z r i := by
  have e := first_eq hk (show jgP c z r i k = true by unfold jgP; rw [h]; rfl) hP
  unfold ansJg
  rw [e, if_pos hk]
  exact (if_pos h).symm
theorem jg_2 {n c z k : Nat} {r : Nat → Int64} {i : Int32} (hk : k < 2 ^ n) (h : jgB z i k = false) (h2 : ¬ r (iN i + k) = (bI (c.testBit k)).toInt64) (hP : ∀ j, j < k → jgP c z r i j = false) : nI k = ansJg n c z r i := by
  have e := first_eq hk (show jgP c z r i k = true by unfold jgP; rw [decide_eq_true h2, Bool.or_true]) hP
  unfold ansJg
  rw [e, if_pos hk]
  exact (if_neg (by rw [h]; decide)).symm
theorem jg_3 {n c z : Nat} {r : Nat → Int64} {i : Int32} (hP : ∀ j, j < 2 ^ n → jgP c z r i j = false) : (-5 : Int32) = ansJg n c z r i := by
  unfold ansJg
  rw [if_neg (first_no hP)]
theorem jg_4 {c z k : Nat} {r : Nat → Int64} {i : Int32} (h : jgB z i k = false) (h2 : r (iN i + k) = (bI (c.testBit k)).toInt64) : jgP c z r i k = false := by unfold jgP; rw [h, decide_eq_false (fun q => q h2)]; rfl
theorem jb_1 {z k : Nat} {i : Int32} (h : i < 0) : jgB z i k = true := decide_eq_true (Or.inl h)
theorem jb_2 {z k : Nat} {i : Int32} (h : ¬ i < nI z - nI k) : jgB z i k = true := decide_eq_true (Or.inr (fa_of_nlt h))
theorem jb_3 {z k : Nat} {i : Int32} (h : ¬ i < 0) (h2 : i < nI z - nI k) (hz : z ≤ 60) (hk : k < 16) : jgB z i k = false ∧ ∃ m, i = nI m ∧ m + k < z := by
  refine ⟨decide_eq_false (fun q => q.elim h (fun y => (fa_of_lt h2).2.1 y)), i.toInt.toNat, ?_, ?_⟩
  · rw [fa_lt] at h
    have e : (0 : Int32).toInt = 0 := rfl
    have r := fb_rng i
    rw [fa_eq, nI_toInt (by omega)]; omega
  · rw [fa_lt, sub_z hz (nI_pos (by omega)), nI_toInt (by omega)] at h2
    rw [fa_lt] at h
    have e : (0 : Int32).toInt = 0 := rfl
    omega
set_option maxRecDepth 100000 in
set_option maxHeartbeats 4000000 in
theorem c_X9_judge_no {g : GC} {d : Nat} {M : MI} {L : ML} {x i : Int32} (h : inN x 6 = false) : CfI g (d + 1) yX9_judge cX9_judge 5 .int [rf g 0, .int x, .int i] M L (-1) (M) (L) := by
  refine cfI_of (own := RX9) (l := [some (rf g 0), some (.int x), some (.int i), none, none]) 2 rfl rfl rfl (Nat.le_of_ble_eq_true rfl) ?_
  refine tm_iload_1 1 rfl dX9_judge_0 ?_
  refine tm_callS_I (c_X9_isTape) ms_X9_isTape ml_X9_293 rfl rfl (Nat.le_of_ble_eq_true rfl) 4 rfl dX9_judge_1 ?_
  refine tm_if_ne_f 7 ((bI_0 _).mpr h) rfl rfl dX9_judge_4 ?_
  refine tm_iconst (-1) rfl 8 rfl dX9_judge_7 ?_
  exact tm_iret rfl rfl rfl dX9_judge_8

set_option maxRecDepth 100000 in
set_option maxHeartbeats 4000000 in
theorem c_X10_judge_no {g : GC} {d : Nat} {M : MI} {L : ML} {x i : Int32} (h : inN x 6 = false) : CfI g (d + 2) yX10_judge cX10_judge 4 .int [rf g 54, .int x, .int i] M L (-1) (M) (L) := by
  refine cfI_of (own := RX10) (l := [some (rf g 54), some (.int x), some (.int i), none]) 1 rfl rfl rfl (Nat.le_of_ble_eq_true rfl) ?_
  refine tm_iload_1 1 rfl dX10_judge_0 ?_
  refine tm_callS_I (c_X10_isTape) ms_X10_isTape ml_X10_244 rfl rfl (Nat.le_of_ble_eq_true rfl) 4 rfl dX10_judge_1 ?_
  refine tm_if_ne_f 7 ((bI_0 _).mpr h) rfl rfl dX10_judge_4 ?_
  refine tm_iconst (-1) rfl 8 rfl dX10_judge_7 ?_
  exact tm_iret rfl rfl rfl dX10_judge_8

set_option maxRecDepth 100000 in
set_option maxHeartbeats 4000000 in
theorem c_X9_judge_t {g : GC} {d : Nat} {M : MI} {L : ML} {σ : AS} (hC : hasC M σ) (hσ : okS σ) {t z : Nat} {so : Int32} (ht : t < 6) (hso : M (tJ t) 0 = so) (hz : M (tJ t) 1 = nI z) (hz6 : z ≤ 60) {i : Int32} : CfI g (d + 2) yX9_judge cX9_judge 5 .int [rf g 0, .int (nI t), .int i] M L (jgA σ.1 σ.2.1 z so (L (tJ t + 1)) i) (M) (L) := by
  have hn := hC.1
  have h4 := hσ.2.1
  have h16 := pow4 h4
  have hp1 := Nat.two_pow_pos σ.1
  have hc := okp hσ
  have hin : inN (nI t) 6 = true := by rw [inN_nI (by omega)]; exact decide_eq_true ht
  refine cfI_of (own := RX9) (l := [some (rf g 0), some (.int (nI t)), some (.int i), none, none]) 2 rfl rfl rfl (Nat.le_of_ble_eq_true rfl) ?_
  refine tm_iload_1 1 rfl dX9_judge_0 ?_
  refine tm_callS_I (c_X9_isTape) ms_X9_isTape ml_X9_293 rfl rfl (Nat.le_of_ble_eq_true rfl) 4 rfl dX9_judge_1 ?_
  refine tm_if_ne_t 9 ((bI_n0 _).mpr hin) rfl dX9_judge_4 ?_
  refine tm_aload_0 10 rfl dX9_judge_9 ?_
  refine tm_getr fl_X9_34 rfl rfl 13 rfl dX9_judge_10 ?_
  refine tm_iload_1 14 rfl dX9_judge_13 ?_
  refine tm_aald2 rfl (ix_nI ht (by decide)) (tp_at ht) 15 rfl dX9_judge_14 ?_
  refine tm_astore_3 (by decide) rfl 16 rfl dX9_judge_15 ?_
  refine tm_aload_3 17 rfl dX9_judge_16 ?_
  refine tm_callV_I (ci := 5) (c_X6_holdsNothing (tpS ht)) mv_X6_holdsNothing ml_X9_296 rfl (tpS ht).1 rfl rfl rfl (Nat.le_of_ble_eq_true rfl) 20 rfl dX9_judge_17 ?_
  rw [hso]
  refine tm_if_eqB 26 23 rfl rfl dX9_judge_20 (fun h20 => ?_) (fun h20 => ?_)
  · refine tm_aload_3 27 rfl dX9_judge_26 ?_
    refine tm_geti fl_X9_300 (tpS ht).1 rfl 30 rfl dX9_judge_27 ?_
    rw [hso]
    refine tm_iconst (4) rfl 31 rfl dX9_judge_30 ?_
    refine tm_icmp_eq 37 34 rfl rfl dX9_judge_31 (fun h31 => ?_) (fun h31 => ?_)
    · refine tm_iconst (0) rfl 38 rfl dX9_judge_37 ?_
      refine tm_istore_4 (by decide) rfl 40 rfl dX9_judge_38 ?_
      refine tm_loopE (N := 2 ^ σ.1) (fun k => ∀ j, j < k → jgP σ.2.1 z (L (tJ t + 1)) i j = false) (fun k => Tm g (d + 2) RX9 cX9_judge 5 (some .int) (QI g (jgA σ.1 σ.2.1 z so (L (tJ t + 1)) i) (M) (L)) 40 [some (rf g 0), some (.int (nI t)), some (.int i), some (rf g (tJ t)), some (.int (nI k))] [] (M) (L)) (fun u hu => absurd hu (by omega)) (fun k hk hP ih => ?_) (fun hPN => ?_)
      · refine tm_iload_4 42 rfl dX9_judge_40 ?_
        refine tm_aload_0 43 rfl dX9_judge_42 ?_
        refine tm_getr fl_X9_12 rfl rfl 46 rfl dX9_judge_43 ?_
        refine tm_callV_I (ci := 3) (c_X4_lots hC hσ) mv_X4_lots ml_X9_237 rfl rfl rfl rfl rfl (Nat.le_of_ble_eq_true rfl) 49 rfl dX9_judge_46 ?_
        refine tm_icmp_ge_f 52 (nI_ge hk (by omega)) rfl rfl dX9_judge_49 ?_
        refine tm_iload_2 53 rfl dX9_judge_52 ?_
        refine tm_if_lt 67 56 rfl rfl dX9_judge_53 (fun h53 => ?_) (fun h53 => ?_)
        · refine tm_bipush (100) (by decide) 69 rfl dX9_judge_67 ?_
          refine tm_iload_4 71 rfl dX9_judge_69 ?_
          refine tm_iadd 72 rfl dX9_judge_71 ?_
          exact tm_iret (by unfold jgA; rw [if_neg (of_decide_eq_false h20), if_neg (fun q => q h31)]; first | exact jg_1 hk (jb_1 h53) hP | exact jg_1 hk (jb_2 h64) hP) rfl rfl dX9_judge_72
        · refine tm_iload_2 57 rfl dX9_judge_56 ?_
          refine tm_aload_3 58 rfl dX9_judge_57 ?_
          refine tm_geti fl_X9_303 (tpS ht).1 rfl 61 rfl dX9_judge_58 ?_
          rw [hz]
          refine tm_iload_4 63 rfl dX9_judge_61 ?_
          refine tm_isub 64 rfl dX9_judge_63 ?_
          refine tm_icmp_lt 73 67 rfl rfl dX9_judge_64 (fun h64 => ?_) (fun h64 => ?_)
          · obtain ⟨jf, m, em, hm⟩ := jb_3 h53 h64 hz6 (show k < 16 by omega)
            refine tm_aload_3 74 rfl dX9_judge_73 ?_
            refine tm_getr fl_X9_304 (tpS ht).1 rfl 77 rfl dX9_judge_74 ?_
            refine tm_iload_2 78 rfl dX9_judge_77 ?_
            refine tm_iload_4 80 rfl dX9_judge_78 ?_
            refine tm_iadd 81 rfl dX9_judge_80 ?_
            rw [em, nI_add]
            refine tm_lald (tpS ht).2 (ix := m + k) (ix_nI (by omega) (by decide)) 82 rfl dX9_judge_81 ?_
            refine tm_aload_0 83 rfl dX9_judge_82 ?_
            refine tm_getr fl_X9_12 rfl rfl 86 rfl dX9_judge_83 ?_
            refine tm_geti fl_X9_82 rfl rfl 89 rfl dX9_judge_86 ?_
            rw [hC.2.1]
            refine tm_iload_4 91 rfl dX9_judge_89 ?_
            refine tm_callS_I (c_X0_says (c := σ.2.1) (k := k) (by omega) (by omega)) ms_X0_says ml_X9_85 rfl rfl (Nat.le_of_ble_eq_true rfl) 94 rfl dX9_judge_91 ?_
            refine tm_i2l 95 rfl dX9_judge_94 ?_
            refine tm_lcmp 96 rfl dX9_judge_95 ?_
            skip
            refine tm_if_eq 102 99 rfl rfl dX9_judge_96 (fun h96 => ?_) (fun h96 => ?_)
            · refine tm_iinc_4 (nI (k + 1)) (iinc1 k) (by decide) rfl 105 rfl dX9_judge_102 ?_
              refine tm_goto 40 rfl dX9_judge_105 ?_
              rw [← em]
              exact ih (lt_s1 hP (jg_4 jf (by rw [em, iN_nI (by omega)]; exact (lgc_eq _ _).mp h96)))
            · refine tm_iload_4 101 rfl dX9_judge_99 ?_
              exact tm_iret (by rw [← em]; unfold jgA; rw [if_neg (of_decide_eq_false h20), if_neg (fun q => q h31)]; exact jg_2 hk jf (fun q => h96 ((lgc_eq _ _).mpr (by rw [← q, em, iN_nI (by omega)]))) hP) rfl rfl dX9_judge_101
          · refine tm_bipush (100) (by decide) 69 rfl dX9_judge_67 ?_
            refine tm_iload_4 71 rfl dX9_judge_69 ?_
            refine tm_iadd 72 rfl dX9_judge_71 ?_
            exact tm_iret (by unfold jgA; rw [if_neg (of_decide_eq_false h20), if_neg (fun q => q h31)]; first | exact jg_1 hk (jb_1 h53) hP | exact jg_1 hk (jb_2 h64) hP) rfl rfl dX9_judge_72
      · refine tm_iload_4 42 rfl dX9_judge_40 ?_
        refine tm_aload_0 43 rfl dX9_judge_42 ?_
        refine tm_getr fl_X9_12 rfl rfl 46 rfl dX9_judge_43 ?_
        refine tm_callV_I (ci := 3) (c_X4_lots hC hσ) mv_X4_lots ml_X9_237 rfl rfl rfl rfl rfl (Nat.le_of_ble_eq_true rfl) 49 rfl dX9_judge_46 ?_
        refine tm_icmp_ge_t 108 (nI_le (Nat.le_refl _) (by omega)) rfl dX9_judge_49 ?_
        refine tm_bipush (-5) (by decide) 110 rfl dX9_judge_108 ?_
        exact tm_iret (by unfold jgA; rw [if_neg (of_decide_eq_false h20), if_neg (fun q => q h31)]; exact jg_3 hPN) rfl rfl dX9_judge_110
    · refine tm_bipush (-12) (by decide) 36 rfl dX9_judge_34 ?_
      exact tm_iret (by unfold jgA; rw [if_neg (of_decide_eq_false h20), if_pos h31]) rfl rfl dX9_judge_36
  · refine tm_bipush (100) (by decide) 25 rfl dX9_judge_23 ?_
    exact tm_iret (if_pos (of_decide_eq_true h20)).symm rfl rfl dX9_judge_25

set_option maxRecDepth 100000 in
set_option maxHeartbeats 4000000 in
theorem c_X10_judge_y {g : GC} {d : Nat} {M : MI} {L : ML} {σ : AS} (hM : hasM M σ) (hσ : okS σ) {t z : Nat} {so : Int32} (ht : t < 6) (hso : M 63 t = so) (hz : M 64 t = nI z) (hz6 : z ≤ 60) (hs5 : soOK so) {i : Int32} (hn1 : ¬ so = -1) : CfI g (d + 2) yX10_judge cX10_judge 4 .int [rf g 54, .int (nI t), .int i] M L (jgA σ.1 σ.2.1 z so (L (tM t)) i) (M) (L) := by
  have hn := hM.1
  have h4 := hσ.2.1
  have h16 := pow4 h4
  have hp1 := Nat.two_pow_pos σ.1
  have hc := okp hσ
  have hin : inN (nI t) 6 = true := by rw [inN_nI (by omega)]; exact decide_eq_true ht
  refine cfI_of (own := RX10) (l := [some (rf g 54), some (.int (nI t)), some (.int i), none]) 1 rfl rfl rfl (Nat.le_of_ble_eq_true rfl) ?_
  refine tm_iload_1 1 rfl dX10_judge_0 ?_
  refine tm_callS_I (c_X10_isTape) ms_X10_isTape ml_X10_244 rfl rfl (Nat.le_of_ble_eq_true rfl) 4 rfl dX10_judge_1 ?_
  refine tm_if_ne_t 9 ((bI_n0 _).mpr hin) rfl dX10_judge_4 ?_
  refine tm_aload_0 10 rfl dX10_judge_9 ?_
  refine tm_getr fl_X10_37 rfl rfl 13 rfl dX10_judge_10 ?_
  refine tm_iload_1 14 rfl dX10_judge_13 ?_
  refine tm_ald rfl (ix := t) (ix_nI ht (by decide)) 15 rfl dX10_judge_14 ?_
  rw [hso]
  refine tm_iconst (-1) rfl 16 rfl dX10_judge_15 ?_
  refine tm_icmp_eq_f 19 (hn1) rfl rfl dX10_judge_16 ?_
  refine tm_aload_0 20 rfl dX10_judge_19 ?_
  refine tm_getr fl_X10_37 rfl rfl 23 rfl dX10_judge_20 ?_
  refine tm_iload_1 24 rfl dX10_judge_23 ?_
  refine tm_ald rfl (ix := t) (ix_nI ht (by decide)) 25 rfl dX10_judge_24 ?_
  rw [hso]
  refine tm_iconst (4) rfl 26 rfl dX10_judge_25 ?_
  refine tm_icmp_eq 32 29 rfl rfl dX10_judge_26 (fun h26 => ?_) (fun h26 => ?_)
  · refine tm_iconst (0) rfl 33 rfl dX10_judge_32 ?_
    refine tm_istore_3 (by decide) rfl 34 rfl dX10_judge_33 ?_
    refine tm_loopE (N := 2 ^ σ.1) (fun k => ∀ j, j < k → jgP σ.2.1 z (L (tM t)) i j = false) (fun k => Tm g (d + 2) RX10 cX10_judge 4 (some .int) (QI g (jgA σ.1 σ.2.1 z so (L (tM t)) i) (M) (L)) 34 [some (rf g 54), some (.int (nI t)), some (.int i), some (.int (nI k))] [] (M) (L)) (fun u hu => absurd hu (by omega)) (fun k hk hP ih => ?_) (fun hPN => ?_)
    · refine tm_iload_3 35 rfl dX10_judge_34 ?_
      refine tm_aload_0 36 rfl dX10_judge_35 ?_
      refine tm_callV_I (ci := 9) (c_X10_lots hn h4) mv_X10_lots ml_X10_56 rfl rfl rfl rfl rfl (Nat.le_of_ble_eq_true rfl) 39 rfl dX10_judge_36 ?_
      refine tm_icmp_ge_f 42 (nI_ge hk (by omega)) rfl rfl dX10_judge_39 ?_
      refine tm_iload_2 43 rfl dX10_judge_42 ?_
      refine tm_if_lt 67 46 rfl rfl dX10_judge_43 (fun h43 => ?_) (fun h43 => ?_)
      · refine tm_bipush (100) (by decide) 69 rfl dX10_judge_67 ?_
        refine tm_iload_3 70 rfl dX10_judge_69 ?_
        refine tm_iadd 71 rfl dX10_judge_70 ?_
        exact tm_iret (by unfold jgA; rw [if_neg hn1, if_neg (fun q => q h26)]; first | exact jg_1 hk (jb_1 h43) hP | exact jg_1 hk (jb_2 h64) hP) rfl rfl dX10_judge_71
      · refine tm_aload_0 47 rfl dX10_judge_46 ?_
        refine tm_getr fl_X10_37 rfl rfl 50 rfl dX10_judge_47 ?_
        refine tm_iload_1 51 rfl dX10_judge_50 ?_
        refine tm_ald rfl (ix := t) (ix_nI ht (by decide)) 52 rfl dX10_judge_51 ?_
        rw [hso]
        refine tm_if_lt_f 55 (fun q => hn1 ((so_lt hs5).mp q)) rfl rfl dX10_judge_52 ?_
        refine tm_iload_2 56 rfl dX10_judge_55 ?_
        refine tm_aload_0 57 rfl dX10_judge_56 ?_
        refine tm_getr fl_X10_40 rfl rfl 60 rfl dX10_judge_57 ?_
        refine tm_iload_1 61 rfl dX10_judge_60 ?_
        refine tm_ald rfl (ix := t) (ix_nI ht (by decide)) 62 rfl dX10_judge_61 ?_
        rw [hz]
        refine tm_iload_3 63 rfl dX10_judge_62 ?_
        refine tm_isub 64 rfl dX10_judge_63 ?_
        refine tm_icmp_lt 72 67 rfl rfl dX10_judge_64 (fun h64 => ?_) (fun h64 => ?_)
        · obtain ⟨jf, m, em, hm⟩ := jb_3 h43 h64 hz6 (show k < 16 by omega)
          refine tm_aload_0 73 rfl dX10_judge_72 ?_
          refine tm_getr fl_X10_45 rfl rfl 76 rfl dX10_judge_73 ?_
          refine tm_iload_1 77 rfl dX10_judge_76 ?_
          refine tm_aald3 rfl (ix_nI ht (by decide)) (mp_at ht) 78 rfl dX10_judge_77 ?_
          refine tm_iload_2 79 rfl dX10_judge_78 ?_
          refine tm_iload_3 80 rfl dX10_judge_79 ?_
          refine tm_iadd 81 rfl dX10_judge_80 ?_
          rw [em, nI_add]
          refine tm_lald (mpS ht) (ix := m + k) (ix_nI (by omega) (by decide)) 82 rfl dX10_judge_81 ?_
          refine tm_aload_0 83 rfl dX10_judge_82 ?_
          refine tm_getr fl_X10_11 rfl rfl 86 rfl dX10_judge_83 ?_
          refine tm_iconst (1) rfl 87 rfl dX10_judge_86 ?_
          refine tm_ald rfl (ix := 1) ⟨by decide, by decide, by decide⟩ 88 rfl dX10_judge_87 ?_
          rw [hM.2.1]
          refine tm_iload_3 89 rfl dX10_judge_88 ?_
          refine tm_callS_I (c_X10_is (c := σ.2.1) (k := k) (by omega) (by omega)) ms_X10_is ml_X10_97 rfl rfl (Nat.le_of_ble_eq_true rfl) 92 rfl dX10_judge_89 ?_
          refine tm_callS_I (c_X10_bit) ms_X10_bit ml_X10_90 rfl rfl (Nat.le_of_ble_eq_true rfl) 95 rfl dX10_judge_92 ?_
          refine tm_i2l 96 rfl dX10_judge_95 ?_
          refine tm_lcmp 97 rfl dX10_judge_96 ?_
          refine tm_if_eq 102 100 rfl rfl dX10_judge_97 (fun h97 => ?_) (fun h97 => ?_)
          · refine tm_iinc_3 (nI (k + 1)) (iinc1 k) (by decide) rfl 105 rfl dX10_judge_102 ?_
            refine tm_goto 34 rfl dX10_judge_105 ?_
            rw [← em]
            exact ih (lt_s1 hP (jg_4 jf (by rw [em, iN_nI (by omega)]; exact (lgc_eq _ _).mp h97)))
          · refine tm_iload_3 101 rfl dX10_judge_100 ?_
            exact tm_iret (by rw [← em]; unfold jgA; rw [if_neg hn1, if_neg (fun q => q h26)]; exact jg_2 hk jf (fun q => h97 ((lgc_eq _ _).mpr (by rw [← q, em, iN_nI (by omega)]))) hP) rfl rfl dX10_judge_101
        · refine tm_bipush (100) (by decide) 69 rfl dX10_judge_67 ?_
          refine tm_iload_3 70 rfl dX10_judge_69 ?_
          refine tm_iadd 71 rfl dX10_judge_70 ?_
          exact tm_iret (by unfold jgA; rw [if_neg hn1, if_neg (fun q => q h26)]; first | exact jg_1 hk (jb_1 h43) hP | exact jg_1 hk (jb_2 h64) hP) rfl rfl dX10_judge_71
    · refine tm_iload_3 35 rfl dX10_judge_34 ?_
      refine tm_aload_0 36 rfl dX10_judge_35 ?_
      refine tm_callV_I (ci := 9) (c_X10_lots hn h4) mv_X10_lots ml_X10_56 rfl rfl rfl rfl rfl (Nat.le_of_ble_eq_true rfl) 39 rfl dX10_judge_36 ?_
      refine tm_icmp_ge_t 108 (nI_le (Nat.le_refl _) (by omega)) rfl dX10_judge_39 ?_
      refine tm_bipush (-5) (by decide) 110 rfl dX10_judge_108 ?_
      exact tm_iret (by unfold jgA; rw [if_neg hn1, if_neg (fun q => q h26)]; exact jg_3 hPN) rfl rfl dX10_judge_110
  · refine tm_bipush (-12) (by decide) 31 rfl dX10_judge_29 ?_
    exact tm_iret (by unfold jgA; rw [if_neg hn1, if_pos h26]) rfl rfl dX10_judge_31

set_option maxRecDepth 100000 in
set_option maxHeartbeats 4000000 in
theorem c_X10_judge_n {g : GC} {d : Nat} {M : MI} {L : ML} {σ : AS} (hM : hasM M σ) (hσ : okS σ) {t : Nat} (ht : t < 6) (hso : M 63 t = -1) {i : Int32} : CfI g (d + 2) yX10_judge cX10_judge 4 .int [rf g 54, .int (nI t), .int i] M L (100) (M) (L) := by
  have hn := hM.1
  have h4 := hσ.2.1
  have h16 := pow4 h4
  have hp1 := Nat.two_pow_pos σ.1
  have hc := okp hσ
  have hin : inN (nI t) 6 = true := by rw [inN_nI (by omega)]; exact decide_eq_true ht
  refine cfI_of (own := RX10) (l := [some (rf g 54), some (.int (nI t)), some (.int i), none]) 1 rfl rfl rfl (Nat.le_of_ble_eq_true rfl) ?_
  refine tm_iload_1 1 rfl dX10_judge_0 ?_
  refine tm_callS_I (c_X10_isTape) ms_X10_isTape ml_X10_244 rfl rfl (Nat.le_of_ble_eq_true rfl) 4 rfl dX10_judge_1 ?_
  refine tm_if_ne_t 9 ((bI_n0 _).mpr hin) rfl dX10_judge_4 ?_
  refine tm_aload_0 10 rfl dX10_judge_9 ?_
  refine tm_getr fl_X10_37 rfl rfl 13 rfl dX10_judge_10 ?_
  refine tm_iload_1 14 rfl dX10_judge_13 ?_
  refine tm_ald rfl (ix := t) (ix_nI ht (by decide)) 15 rfl dX10_judge_14 ?_
  rw [hso]
  refine tm_iconst (-1) rfl 16 rfl dX10_judge_15 ?_
  refine tm_icmp_eq_t 32 (rfl) rfl dX10_judge_16 ?_
  refine tm_iconst (0) rfl 33 rfl dX10_judge_32 ?_
  refine tm_istore_3 (by decide) rfl 34 rfl dX10_judge_33 ?_
  refine tm_iload_3 35 rfl dX10_judge_34 ?_
  refine tm_aload_0 36 rfl dX10_judge_35 ?_
  refine tm_callV_I (ci := 9) (c_X10_lots hn h4) mv_X10_lots ml_X10_56 rfl rfl rfl rfl rfl (Nat.le_of_ble_eq_true rfl) 39 rfl dX10_judge_36 ?_
  refine tm_icmp_ge_f 42 (nI_ge (a := 0) hp1 (by omega)) rfl rfl dX10_judge_39 ?_
  refine tm_iload_2 43 rfl dX10_judge_42 ?_
  refine tm_if_lt 67 46 rfl rfl dX10_judge_43 (fun h43 => ?_) (fun h43 => ?_)
  · refine tm_bipush (100) (by decide) 69 rfl dX10_judge_67 ?_
    refine tm_iload_3 70 rfl dX10_judge_69 ?_
    refine tm_iadd 71 rfl dX10_judge_70 ?_
    exact tm_iret rfl rfl rfl dX10_judge_71
  · refine tm_aload_0 47 rfl dX10_judge_46 ?_
    refine tm_getr fl_X10_37 rfl rfl 50 rfl dX10_judge_47 ?_
    refine tm_iload_1 51 rfl dX10_judge_50 ?_
    refine tm_ald rfl (ix := t) (ix_nI ht (by decide)) 52 rfl dX10_judge_51 ?_
    rw [hso]
    refine tm_if_lt_t 67 (by decide) rfl dX10_judge_52 ?_
    refine tm_bipush (100) (by decide) 69 rfl dX10_judge_67 ?_
    refine tm_iload_3 70 rfl dX10_judge_69 ?_
    refine tm_iadd 71 rfl dX10_judge_70 ?_
    exact tm_iret rfl rfl rfl dX10_judge_71


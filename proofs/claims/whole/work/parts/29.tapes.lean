/-! tapes -/
abbrev tJ (t : Nat) : Nat := 29 + 2 * t
abbrev tM (t : Nat) : Nat := 67 + t
theorem six {P : Nat → Prop} (h0 : P 0) (h1 : P 1) (h2 : P 2) (h3 : P 3) (h4 : P 4) (h5 : P 5) {t : Nat} (ht : t < 6) : P t := by
  rcases (show t = 0 ∨ t = 1 ∨ t = 2 ∨ t = 3 ∨ t = 4 ∨ t = 5 by omega) with rfl | rfl | rfl | rfl | rfl | rfl
  · exact h0
  · exact h1
  · exact h2
  · exact h3
  · exact h4
  · exact h5
def tpQ (j : Nat) : Prop := shp j = some (.inl (5, [none, none, some (j + 1)])) ∧ shp (j + 1) = some (.inr (1, 60, []))
theorem tpS {t : Nat} (ht : t < 6) : tpQ (tJ t) := six (P := fun t => tpQ (tJ t)) ⟨rfl, rfl⟩ ⟨rfl, rfl⟩ ⟨rfl, rfl⟩ ⟨rfl, rfl⟩ ⟨rfl, rfl⟩ ⟨rfl, rfl⟩ ht
theorem tp_at {t : Nat} (ht : t < 6) : ([29, 31, 33, 35, 37, 39] : List Nat)[t]? = some (tJ t) := six (P := fun t => ([29, 31, 33, 35, 37, 39] : List Nat)[t]? = some (tJ t)) rfl rfl rfl rfl rfl rfl ht
theorem mpS {t : Nat} (ht : t < 6) : shp (tM t) = some (.inr (1, 60, [])) := six (P := fun t => shp (tM t) = some (.inr (1, 60, []))) rfl rfl rfl rfl rfl rfl ht
theorem mp_at {t : Nat} (ht : t < 6) : ([67, 68, 69, 70, 71, 72] : List Nat)[t]? = some (tM t) := six (P := fun t => ([67, 68, 69, 70, 71, 72] : List Nat)[t]? = some (tM t)) rfl rfl rfl rfl rfl rfl ht
def zLk (L : ML) (i k : Nat) : ML := srL L i (fun q => if q < k then 0 else L i q)
theorem srL_self (L : ML) (i : Nat) : srL L i (L i) = L := by
  funext j
  unfold srL
  by_cases h : j = i
  · rw [if_pos h, h]
  · rw [if_neg h]
theorem zLk_0 (L : ML) (i : Nat) : zLk L i 0 = L := by
  unfold zLk
  have e : (fun q => if q < 0 then (0 : Int64) else L i q) = L i := by funext q; simp
  rw [e, srL_self]
theorem zLk_s (L : ML) (i k : Nat) : s1L (zLk L i k) i k 0 = zLk L i (k + 1) := by
  unfold s1L zLk
  rw [srL_eq]
  funext j
  by_cases h : j = i
  · subst h
    rw [srL_eq, srL_eq]
    funext q
    unfold vp_updL
    by_cases e : q = k
    · subst e; simp
    · by_cases e2 : q < k
      · simp [e, e2, show q < k + 1 by omega]
      · simp [e, e2, show ¬ q < k + 1 by omega]
  · rw [srL_ne h, srL_ne h, srL_ne h]
def cutV (so : Int32) (v : Int64) : Int64 := if so = 0 then v.toInt32.toInt8.toInt32.toInt64 else if so = 1 then v.toInt32.toInt16.toInt32.toInt64 else if so = 2 then v.toInt32.toInt64 else if so = 4 then (if v = 0 then 0 else 1) else v
def strB (i n : Int32) (z : Nat) : Bool := decide (0 ≤ n.toInt ∧ 0 ≤ i.toInt ∧ i.toInt + n.toInt ≤ (z : Int))
set_option maxRecDepth 100000 in
set_option maxHeartbeats 4000000 in
theorem c_X6_holdsNothing {g : GC} {d : Nat} {M : MI} {L : ML} {j : Nat} (hj : tpQ j) : CfI g (d) yX6_holdsNothing cX6_holdsNothing 1 .boolean [rf g j] M L (bI (decide (M j 0 = -1))) (M) (L) := by
  refine cfI_of (own := RX6) (l := [some (rf g j)]) 0 rfl rfl rfl (Nat.le_of_ble_eq_true rfl) ?_
  refine tm_aload_0 1 rfl dX6_holdsNothing_0 ?_
  refine tm_geti fl_X6_9 hj.1 rfl 4 rfl dX6_holdsNothing_1 ?_
  refine tm_iconst (-1) rfl 5 rfl dX6_holdsNothing_4 ?_
  refine tm_icmp_ne 12 8 rfl rfl dX6_holdsNothing_5 (fun h5 => ?_) (fun h5 => ?_)
  · refine tm_iconst (0) rfl 13 rfl dX6_holdsNothing_12 ?_
    exact tm_zret (by decide) (by first | (rw [decide_eq_true h5]; rfl) | (rw [decide_eq_false h5]; rfl)) rfl rfl dX6_holdsNothing_13
  · refine tm_iconst (1) rfl 9 rfl dX6_holdsNothing_8 ?_
    refine tm_goto 13 rfl dX6_holdsNothing_9 ?_
    exact tm_zret (by decide) (by first | (rw [decide_eq_true h5]; rfl) | (rw [decide_eq_false h5]; rfl)) rfl rfl dX6_holdsNothing_13

set_option maxRecDepth 100000 in
set_option maxHeartbeats 4000000 in
theorem c_X6_become {g : GC} {d : Nat} {M : MI} {L : ML} {j : Nat} (hj : tpQ j) {x y : Int32} : CfV g (d) yX6_become cX6_become 4 [rf g j, .int x, .int y] M L (s1 (s1 M j 0 x) j 1 y) (zLk L (j + 1) 60) := by
  refine cfV_of (own := RX6) (l := [some (rf g j), some (.int x), some (.int y), none]) 1 rfl rfl rfl (Nat.le_of_ble_eq_true rfl) ?_
  refine tm_aload_0 1 rfl dX6_become_0 ?_
  refine tm_iload_1 2 rfl dX6_become_1 ?_
  refine tm_puti fl_X6_9 fw_5_0 hj.1 rfl rfl rfl 5 rfl dX6_become_2 ?_
  refine tm_aload_0 6 rfl dX6_become_5 ?_
  refine tm_iload_2 7 rfl dX6_become_6 ?_
  refine tm_puti fl_X6_13 fw_5_1 hj.1 rfl rfl rfl 10 rfl dX6_become_7 ?_
  refine tm_iconst (0) rfl 11 rfl dX6_become_10 ?_
  refine tm_istore_3 (by decide) rfl 12 rfl dX6_become_11 ?_
  refine tm_mem rfl (zLk_0 L (j + 1)) ?_
  refine tm_loop (N := 60) (fun k => Tm g (d) RX6 cX6_become 4 none (QV g (s1 (s1 M j 0 x) j 1 y) (zLk L (j + 1) 60)) 12 [some (rf g j), some (.int x), some (.int y), some (.int (nI k))] [] (s1 (s1 M j 0 x) j 1 y) (zLk L (j + 1) k)) (fun k hk ih => ?_) ?_
  · refine tm_iload_3 13 rfl dX6_become_12 ?_
    refine tm_bipush (60) (by decide) 15 rfl dX6_become_13 ?_
    refine tm_icmp_ge_f 18 (nI_ge hk (by decide)) rfl rfl dX6_become_15 ?_
    refine tm_aload_0 19 rfl dX6_become_18 ?_
    refine tm_getr fl_X6_16 hj.1 rfl 22 rfl dX6_become_19 ?_
    refine tm_iload_3 23 rfl dX6_become_22 ?_
    refine tm_lconst 0 rfl 24 rfl dX6_become_23 ?_
    refine tm_last hj.2 (ix := k) (ix_nI hk (by decide)) 25 rfl dX6_become_24 ?_
    refine tm_iinc_3 (nI (k + 1)) (iinc1 k) (by decide) rfl 28 rfl dX6_become_25 ?_
    refine tm_goto 12 rfl dX6_become_28 ?_
    rw [zLk_s]
    exact ih
  · refine tm_iload_3 13 rfl dX6_become_12 ?_
    refine tm_bipush (60) (by decide) 15 rfl dX6_become_13 ?_
    refine tm_icmp_ge_t 31 (nI_le (Nat.le_refl 60) (by decide)) rfl dX6_become_15 ?_
    exact tm_vret rfl rfl dX6_become_31

set_option maxRecDepth 100000 in
set_option maxHeartbeats 4000000 in
theorem c_X6_hasPlace {g : GC} {d : Nat} {M : MI} {L : ML} {j : Nat} (hj : tpQ j) {z : Nat} (hz : M j 1 = nI z) (hz6 : z ≤ 60) {x : Int32} : CfI g (d) yX6_hasPlace cX6_hasPlace 2 .boolean [rf g j, .int x] M L (bI (inN x z)) (M) (L) := by
  refine cfI_of (own := RX6) (l := [some (rf g j), some (.int x)]) 0 rfl rfl rfl (Nat.le_of_ble_eq_true rfl) ?_
  refine tm_iload_1 1 rfl dX6_hasPlace_0 ?_
  refine tm_if_lt 16 4 rfl rfl dX6_hasPlace_1 (fun h1 => ?_) (fun h1 => ?_)
  · refine tm_iconst (0) rfl 17 rfl dX6_hasPlace_16 ?_
    exact tm_zret (by decide) (by first | exact inN_h h1 | exact inN_g h9 (by omega) | exact inN_f h1 h9 (by omega)) rfl rfl dX6_hasPlace_17
  · refine tm_iload_1 5 rfl dX6_hasPlace_4 ?_
    refine tm_aload_0 6 rfl dX6_hasPlace_5 ?_
    refine tm_geti fl_X6_13 hj.1 rfl 9 rfl dX6_hasPlace_6 ?_
    rw [hz]
    refine tm_icmp_ge 16 12 rfl rfl dX6_hasPlace_9 (fun h9 => ?_) (fun h9 => ?_)
    · refine tm_iconst (0) rfl 17 rfl dX6_hasPlace_16 ?_
      exact tm_zret (by decide) (by first | exact inN_h h1 | exact inN_g h9 (by omega) | exact inN_f h1 h9 (by omega)) rfl rfl dX6_hasPlace_17
    · refine tm_iconst (1) rfl 13 rfl dX6_hasPlace_12 ?_
      refine tm_goto 17 rfl dX6_hasPlace_13 ?_
      exact tm_zret (by decide) (by first | exact inN_h h1 | exact inN_g h9 (by omega) | exact inN_f h1 h9 (by omega)) rfl rfl dX6_hasPlace_17

theorem str_1 {i n : Int32} {z : Nat} (h : n < 0) : (0 : Int32) = bI (strB i n z) := by
  rw [fa_lt] at h
  rw [show strB i n z = false from decide_eq_false (fun q => by have : (0 : Int32).toInt = 0 := rfl; omega)]; rfl
theorem str_2 {i n : Int32} {z : Nat} (h : i < 0) : (0 : Int32) = bI (strB i n z) := by
  rw [fa_lt] at h
  rw [show strB i n z = false from decide_eq_false (fun q => by have : (0 : Int32).toInt = 0 := rfl; omega)]; rfl
theorem sub_z {n : Int32} {z : Nat} (hz : z ≤ 60) (h : ¬ n < 0) : (nI z - n).toInt = (z : Int) - n.toInt := by
  rw [fa_lt] at h
  have e : (0 : Int32).toInt = 0 := rfl
  have r := fb_rng n
  have q : (nI z).toInt = z := nI_toInt (by omega)
  rw [fb_subI (by omega) (by omega), q]
theorem str_3 {i n : Int32} {z : Nat} (hz : z ≤ 60) (h1 : ¬ n < 0) (h : nI z - n < i) : (0 : Int32) = bI (strB i n z) := by
  rw [fa_lt, sub_z hz h1] at h
  rw [show strB i n z = false from decide_eq_false (fun q => by omega)]; rfl
theorem str_4 {i n : Int32} {z : Nat} (hz : z ≤ 60) (h1 : ¬ n < 0) (h2 : ¬ i < 0) (h : ¬ nI z - n < i) : (1 : Int32) = bI (strB i n z) := by
  rw [fa_lt, sub_z hz h1] at h
  rw [fa_lt] at h1 h2
  have e : (0 : Int32).toInt = 0 := rfl
  rw [show strB i n z = true from decide_eq_true (by omega)]; rfl
set_option maxRecDepth 100000 in
set_option maxHeartbeats 4000000 in
theorem c_X6_hasStretch {g : GC} {d : Nat} {M : MI} {L : ML} {j : Nat} (hj : tpQ j) {z : Nat} (hz : M j 1 = nI z) (hz6 : z ≤ 60) {x y : Int32} : CfI g (d) yX6_hasStretch cX6_hasStretch 3 .boolean [rf g j, .int x, .int y] M L (bI (strB x y z)) (M) (L) := by
  refine cfI_of (own := RX6) (l := [some (rf g j), some (.int x), some (.int y)]) 0 rfl rfl rfl (Nat.le_of_ble_eq_true rfl) ?_
  refine tm_iload_2 1 rfl dX6_hasStretch_0 ?_
  refine tm_if_lt 22 4 rfl rfl dX6_hasStretch_1 (fun h1 => ?_) (fun h1 => ?_)
  · refine tm_iconst (0) rfl 23 rfl dX6_hasStretch_22 ?_
    exact tm_zret (by decide) (by first | exact str_1 h1 | exact str_2 h5 | exact str_3 hz6 h1 h15 | exact str_4 hz6 h1 h5 h15) rfl rfl dX6_hasStretch_23
  · refine tm_iload_1 5 rfl dX6_hasStretch_4 ?_
    refine tm_if_lt 22 8 rfl rfl dX6_hasStretch_5 (fun h5 => ?_) (fun h5 => ?_)
    · refine tm_iconst (0) rfl 23 rfl dX6_hasStretch_22 ?_
      exact tm_zret (by decide) (by first | exact str_1 h1 | exact str_2 h5 | exact str_3 hz6 h1 h15 | exact str_4 hz6 h1 h5 h15) rfl rfl dX6_hasStretch_23
    · refine tm_iload_1 9 rfl dX6_hasStretch_8 ?_
      refine tm_aload_0 10 rfl dX6_hasStretch_9 ?_
      refine tm_geti fl_X6_13 hj.1 rfl 13 rfl dX6_hasStretch_10 ?_
      rw [hz]
      refine tm_iload_2 14 rfl dX6_hasStretch_13 ?_
      refine tm_isub 15 rfl dX6_hasStretch_14 ?_
      refine tm_icmp_gt 22 18 rfl rfl dX6_hasStretch_15 (fun h15 => ?_) (fun h15 => ?_)
      · refine tm_iconst (0) rfl 23 rfl dX6_hasStretch_22 ?_
        exact tm_zret (by decide) (by first | exact str_1 h1 | exact str_2 h5 | exact str_3 hz6 h1 h15 | exact str_4 hz6 h1 h5 h15) rfl rfl dX6_hasStretch_23
      · refine tm_iconst (1) rfl 19 rfl dX6_hasStretch_18 ?_
        refine tm_goto 23 rfl dX6_hasStretch_19 ?_
        exact tm_zret (by decide) (by first | exact str_1 h1 | exact str_2 h5 | exact str_3 hz6 h1 h15 | exact str_4 hz6 h1 h5 h15) rfl rfl dX6_hasStretch_23

theorem cut_x {so : Int32} {v : Int64} (h : ¬ inN so 5 = true) : cutV so v = v := by
  unfold cutV
  rw [if_neg (fun q => h (by rw [q]; rfl)), if_neg (fun q => h (by rw [q]; rfl)), if_neg (fun q => h (by rw [q]; rfl)), if_neg (fun q => h (by rw [q]; rfl))]
theorem cut_4 {v : Int64} : cutV 4 v = if v = 0 then 0 else 1 := by unfold cutV; rw [if_neg (by decide), if_neg (by decide), if_neg (by decide), if_pos rfl]
theorem cut_3 {v : Int64} : cutV 3 v = v := by unfold cutV; rw [if_neg (by decide), if_neg (by decide), if_neg (by decide), if_neg (by decide)]
theorem cut_2 {v : Int64} : cutV 2 v = v.toInt32.toInt64 := by unfold cutV; rw [if_neg (by decide), if_neg (by decide), if_pos rfl]
theorem cut_1 {v : Int64} : cutV 1 v = v.toInt32.toInt16.toInt32.toInt64 := by unfold cutV; rw [if_neg (by decide), if_pos rfl]
theorem cut_0 {v : Int64} : cutV 0 v = v.toInt32.toInt8.toInt32.toInt64 := by unfold cutV; rw [if_pos rfl]
set_option maxRecDepth 100000 in
set_option maxHeartbeats 4000000 in
theorem c_X6_cut {g : GC} {d : Nat} {M : MI} {L : ML} {j : Nat} (hj : tpQ j) {so : Int32} (hso : M j 0 = so) {v : Int64} : CfL g (d) yX6_cut cX6_cut 3 [rf g j, .long v] M L (cutV so v) (M) (L) := by
  refine cfL_of (own := RX6) (l := [some (rf g j), some (.long v), none]) 0 rfl rfl rfl (Nat.le_of_ble_eq_true rfl) ?_
  refine tm_aload_0 1 rfl dX6_cut_0 ?_
  refine tm_geti fl_X6_9 hj.1 rfl 4 rfl dX6_cut_1 ?_
  rw [hso]
  by_cases hs4 : inN so 5 = true
  · obtain ⟨q4, hq4, rfl⟩ := inN_of hs4
    rcases (show q4 = 0 ∨ q4 = 1 ∨ q4 = 2 ∨ q4 = 3 ∨ q4 = 4 by omega) with rfl | rfl | rfl | rfl | rfl
    · refine tm_swIn (off := 36) 40 (by decide) (by decide) (by decide +kernel) rfl dX6_cut_4 ?_
      refine tm_lload_1 41 rfl dX6_cut_40 ?_
      refine tm_l2i 42 rfl dX6_cut_41 ?_
      refine tm_i2b 43 rfl dX6_cut_42 ?_
      refine tm_i2l 44 rfl dX6_cut_43 ?_
      exact tm_lret cut_0.symm rfl rfl dX6_cut_44
    · refine tm_swIn (off := 41) 45 (by decide) (by decide) (by decide +kernel) rfl dX6_cut_4 ?_
      refine tm_lload_1 46 rfl dX6_cut_45 ?_
      refine tm_l2i 47 rfl dX6_cut_46 ?_
      refine tm_i2s 48 rfl dX6_cut_47 ?_
      refine tm_i2l 49 rfl dX6_cut_48 ?_
      exact tm_lret cut_1.symm rfl rfl dX6_cut_49
    · refine tm_swIn (off := 46) 50 (by decide) (by decide) (by decide +kernel) rfl dX6_cut_4 ?_
      refine tm_lload_1 51 rfl dX6_cut_50 ?_
      refine tm_l2i 52 rfl dX6_cut_51 ?_
      refine tm_i2l 53 rfl dX6_cut_52 ?_
      exact tm_lret cut_2.symm rfl rfl dX6_cut_53
    · refine tm_swIn (off := 62) 66 (by decide) (by decide) (by decide +kernel) rfl dX6_cut_4 ?_
      refine tm_lload_1 67 rfl dX6_cut_66 ?_
      exact tm_lret (by first | exact (cut_x hs4).symm | exact cut_3.symm) rfl rfl dX6_cut_67
    · refine tm_swIn (off := 50) 54 (by decide) (by decide) (by decide +kernel) rfl dX6_cut_4 ?_
      refine tm_lload_1 55 rfl dX6_cut_54 ?_
      refine tm_lconst 0 rfl 56 rfl dX6_cut_55 ?_
      refine tm_lcmp 57 rfl dX6_cut_56 ?_
      refine tm_if_eq 64 60 rfl rfl dX6_cut_57 (fun h57 => ?_) (fun h57 => ?_)
      · refine tm_lconst 0 rfl 65 rfl dX6_cut_64 ?_
        exact tm_lret (by first | exact (cut_4.trans (if_pos ((lgc_eq v 0).mp h57))).symm | exact (cut_4.trans (if_neg (fun q => h57 ((lgc_eq v 0).mpr q)))).symm) rfl rfl dX6_cut_65
      · refine tm_lconst 1 rfl 61 rfl dX6_cut_60 ?_
        refine tm_goto 65 rfl dX6_cut_61 ?_
        exact tm_lret (by first | exact (cut_4.trans (if_pos ((lgc_eq v 0).mp h57))).symm | exact (cut_4.trans (if_neg (fun q => h57 ((lgc_eq v 0).mpr q)))).symm) rfl rfl dX6_cut_65
  · refine tm_swOut 66 (sw_out hs4 rfl) rfl dX6_cut_4 ?_
    refine tm_lload_1 67 rfl dX6_cut_66 ?_
    exact tm_lret (by first | exact (cut_x hs4).symm | exact cut_3.symm) rfl rfl dX6_cut_67

set_option maxRecDepth 100000 in
set_option maxHeartbeats 4000000 in
theorem c_X9_isTape {g : GC} {d : Nat} {M : MI} {L : ML} {x : Int32} : CfI g (d) yX9_isTape cX9_isTape 1 .boolean [.int x] M L (bI (inN x 6)) (M) (L) := by
  refine cfI_of (own := RX9) (l := [some (.int x)]) 0 rfl rfl rfl (Nat.le_of_ble_eq_true rfl) ?_
  refine tm_iload_0 1 rfl dX9_isTape_0 ?_
  refine tm_if_lt 14 4 rfl rfl dX9_isTape_1 (fun h1 => ?_) (fun h1 => ?_)
  · refine tm_iconst (0) rfl 15 rfl dX9_isTape_14 ?_
    exact tm_zret (by decide) (by first | exact inN_h h1 | exact inN_g h7 (by omega) | exact inN_f h1 h7 (by omega)) rfl rfl dX9_isTape_15
  · refine tm_iload_0 5 rfl dX9_isTape_4 ?_
    refine tm_bipush (6) (by decide) 7 rfl dX9_isTape_5 ?_
    refine tm_icmp_ge 14 10 rfl rfl dX9_isTape_7 (fun h7 => ?_) (fun h7 => ?_)
    · refine tm_iconst (0) rfl 15 rfl dX9_isTape_14 ?_
      exact tm_zret (by decide) (by first | exact inN_h h1 | exact inN_g h7 (by omega) | exact inN_f h1 h7 (by omega)) rfl rfl dX9_isTape_15
    · refine tm_iconst (1) rfl 11 rfl dX9_isTape_10 ?_
      refine tm_goto 15 rfl dX9_isTape_11 ?_
      exact tm_zret (by decide) (by first | exact inN_h h1 | exact inN_g h7 (by omega) | exact inN_f h1 h7 (by omega)) rfl rfl dX9_isTape_15

set_option maxRecDepth 100000 in
set_option maxHeartbeats 4000000 in
theorem c_X10_isTape {g : GC} {d : Nat} {M : MI} {L : ML} {x : Int32} : CfI g (d + 1) yX10_isTape cX10_isTape 1 .boolean [.int x] M L (bI (inN x 6)) (M) (L) := by
  refine cfI_of (own := RX10) (l := [some (.int x)]) 0 rfl rfl rfl (Nat.le_of_ble_eq_true rfl) ?_
  refine tm_iload_0 1 rfl dX10_isTape_0 ?_
  refine tm_i2l 2 rfl dX10_isTape_1 ?_
  refine tm_lconst 0 rfl 3 rfl dX10_isTape_2 ?_
  refine tm_ldc2 kl_X10_242 6 rfl dX10_isTape_3 ?_
  refine tm_callS_I (c_X10_in) ms_X10_in ml_X10_60 rfl rfl (Nat.le_of_ble_eq_true rfl) 9 rfl dX10_isTape_6 ?_
  exact tm_zret (bI_01 _) (by rw [btw_in (N := 6) rfl]) rfl rfl dX10_isTape_9

def tpK (x so n : Int32) : Nat := if inN x 6 = false then 1 else if so = -1 then 5 else if so < 0 ∨ 4 < so ∨ 60 < n then 2 else if n < 0 then 6 else 3
def tpA (k : Nat) : Int32 := if k = 1 then -1 else if k = 2 then -2 else if k = 6 then -14 else 1
theorem tpK_1 {x so n : Int32} (h : inN x 6 = false) : tpK x so n = 1 := if_pos h
theorem tpK_5 {x so n : Int32} (h : inN x 6 = true) (h1 : so = -1) : tpK x so n = 5 := by unfold tpK; rw [if_neg (by rw [h]; decide), if_pos h1]
theorem tpK_2 {x so n : Int32} (h : inN x 6 = true) (h1 : ¬ so = -1) (h2 : so < 0 ∨ 4 < so ∨ 60 < n) : tpK x so n = 2 := by unfold tpK; rw [if_neg (by rw [h]; decide), if_neg h1, if_pos h2]
theorem tpK_6 {x so n : Int32} (h : inN x 6 = true) (h1 : ¬ so = -1) (h2 : ¬ (so < 0 ∨ 4 < so ∨ 60 < n)) (h3 : n < 0) : tpK x so n = 6 := by unfold tpK; rw [if_neg (by rw [h]; decide), if_neg h1, if_neg h2, if_pos h3]
theorem tpK_3 {x so n : Int32} (h : inN x 6 = true) (h1 : ¬ so = -1) (h2 : ¬ (so < 0 ∨ 4 < so ∨ 60 < n)) (h3 : ¬ n < 0) : tpK x so n = 3 := by unfold tpK; rw [if_neg (by rw [h]; decide), if_neg h1, if_neg h2, if_neg h3]
def tpC (M : MI) (t : Nat) (so n : Int32) (k : Nat) : MI := if k = 5 then s1 (s1 M (tJ t) 0 (-1)) (tJ t) 1 0 else if k = 3 then s1 (s1 M (tJ t) 0 so) (tJ t) 1 n else M
def tpL (L : ML) (i k : Nat) : ML := if k = 5 then zLk L i 60 else if k = 3 then zLk L i 60 else L
def tpM (M : MI) (t : Nat) (so n : Int32) (k : Nat) : MI := if k = 5 then s1 (s1 M 63 t (-1)) 64 t 0 else if k = 3 then s1 (s1 M 63 t so) 64 t n else M
theorem lt_of_nle {a b : Int32} (h : ¬ a ≤ b) : b < a := fa_of_nle h
theorem tp_no {so n : Int32} (h1 : ¬ so < 0) (h2 : ¬ 4 < so) (h3 : n ≤ 60) : ¬ (so < 0 ∨ 4 < so ∨ 60 < n) := by
  rintro (q | q | q)
  · exact h1 q
  · exact h2 q
  · exact (fa_of_lt q).2.1 h3
theorem nlt_ge {a b : Int32} (h : b ≤ a) : ¬ a < b := fun q => (fa_of_lt q).2.1 h
set_option maxRecDepth 100000 in
set_option maxHeartbeats 4000000 in
theorem c_X9_tape_no {g : GC} {d : Nat} {M : MI} {L : ML} {x so n : Int32} (h : inN x 6 = false) : CfI g (d + 1) yX9_tape cX9_tape 4 .int [rf g 0, .int x, .int so, .int n] M L (tpA (tpK x so n)) (M) (L) := by
  refine cfI_of (own := RX9) (l := [some (rf g 0), some (.int x), some (.int so), some (.int n)]) 0 rfl rfl rfl (Nat.le_of_ble_eq_true rfl) ?_
  refine tm_iload_1 1 rfl dX9_tape_0 ?_
  refine tm_callS_I (c_X9_isTape) ms_X9_isTape ml_X9_293 rfl rfl (Nat.le_of_ble_eq_true rfl) 4 rfl dX9_tape_1 ?_
  refine tm_if_ne_f 7 ((bI_0 _).mpr h) rfl rfl dX9_tape_4 ?_
  refine tm_iconst (-1) rfl 8 rfl dX9_tape_7 ?_
  exact tm_iret (by rw [tpK_1 h]; rfl) rfl rfl dX9_tape_8

set_option maxRecDepth 100000 in
set_option maxHeartbeats 4000000 in
theorem c_X9_tape_t {g : GC} {d : Nat} {M : MI} {L : ML} {t : Nat} (ht : t < 6) {so n : Int32} : CfI g (d + 1) yX9_tape cX9_tape 4 .int [rf g 0, .int (nI t), .int so, .int n] M L (tpA (tpK (nI t) so n)) (tpC M t so n (tpK (nI t) so n)) (tpL L (tJ t + 1) (tpK (nI t) so n)) := by
  have hin : inN (nI t) 6 = true := by rw [inN_nI (by omega)]; exact decide_eq_true ht
  refine cfI_of (own := RX9) (l := [some (rf g 0), some (.int (nI t)), some (.int so), some (.int n)]) 0 rfl rfl rfl (Nat.le_of_ble_eq_true rfl) ?_
  refine tm_iload_1 1 rfl dX9_tape_0 ?_
  refine tm_callS_I (c_X9_isTape) ms_X9_isTape ml_X9_293 rfl rfl (Nat.le_of_ble_eq_true rfl) 4 rfl dX9_tape_1 ?_
  refine tm_if_ne_t 9 ((bI_n0 _).mpr hin) rfl dX9_tape_4 ?_
  refine tm_iload_2 10 rfl dX9_tape_9 ?_
  refine tm_iconst (-1) rfl 11 rfl dX9_tape_10 ?_
  refine tm_icmp_ne 27 14 rfl rfl dX9_tape_11 (fun h11 => ?_) (fun h11 => ?_)
  · refine tm_iload_2 28 rfl dX9_tape_27 ?_
    refine tm_if_lt 42 31 rfl rfl dX9_tape_28 (fun h28 => ?_) (fun h28 => ?_)
    · refine tm_bipush (-2) (by decide) 44 rfl dX9_tape_42 ?_
      exact tm_iret (by first | (rw [tpK_2 hin h11 (Or.inl h28)]; rfl) | (rw [tpK_2 hin h11 (Or.inr (Or.inl h33))]; rfl) | (rw [tpK_2 hin h11 (Or.inr (Or.inr (lt_of_nle h39)))]; rfl)) (by first | (rw [tpK_2 hin h11 (Or.inl h28)]; rfl) | (rw [tpK_2 hin h11 (Or.inr (Or.inl h33))]; rfl) | (rw [tpK_2 hin h11 (Or.inr (Or.inr (lt_of_nle h39)))]; rfl)) (by first | (rw [tpK_2 hin h11 (Or.inl h28)]; rfl) | (rw [tpK_2 hin h11 (Or.inr (Or.inl h33))]; rfl) | (rw [tpK_2 hin h11 (Or.inr (Or.inr (lt_of_nle h39)))]; rfl)) dX9_tape_44
    · refine tm_iload_2 32 rfl dX9_tape_31 ?_
      refine tm_iconst (4) rfl 33 rfl dX9_tape_32 ?_
      refine tm_icmp_gt 42 36 rfl rfl dX9_tape_33 (fun h33 => ?_) (fun h33 => ?_)
      · refine tm_bipush (-2) (by decide) 44 rfl dX9_tape_42 ?_
        exact tm_iret (by first | (rw [tpK_2 hin h11 (Or.inl h28)]; rfl) | (rw [tpK_2 hin h11 (Or.inr (Or.inl h33))]; rfl) | (rw [tpK_2 hin h11 (Or.inr (Or.inr (lt_of_nle h39)))]; rfl)) (by first | (rw [tpK_2 hin h11 (Or.inl h28)]; rfl) | (rw [tpK_2 hin h11 (Or.inr (Or.inl h33))]; rfl) | (rw [tpK_2 hin h11 (Or.inr (Or.inr (lt_of_nle h39)))]; rfl)) (by first | (rw [tpK_2 hin h11 (Or.inl h28)]; rfl) | (rw [tpK_2 hin h11 (Or.inr (Or.inl h33))]; rfl) | (rw [tpK_2 hin h11 (Or.inr (Or.inr (lt_of_nle h39)))]; rfl)) dX9_tape_44
      · refine tm_iload_3 37 rfl dX9_tape_36 ?_
        refine tm_bipush (60) (by decide) 39 rfl dX9_tape_37 ?_
        refine tm_icmp_le 45 42 rfl rfl dX9_tape_39 (fun h39 => ?_) (fun h39 => ?_)
        · refine tm_iload_3 46 rfl dX9_tape_45 ?_
          refine tm_if_ge 52 49 rfl rfl dX9_tape_46 (fun h46 => ?_) (fun h46 => ?_)
          · refine tm_aload_0 53 rfl dX9_tape_52 ?_
            refine tm_getr fl_X9_34 rfl rfl 56 rfl dX9_tape_53 ?_
            refine tm_iload_1 57 rfl dX9_tape_56 ?_
            refine tm_aald2 rfl (ix_nI ht (by decide)) (tp_at ht) 58 rfl dX9_tape_57 ?_
            refine tm_iload_2 59 rfl dX9_tape_58 ?_
            refine tm_iload_3 60 rfl dX9_tape_59 ?_
            refine tm_callV_V (ci := 5) (c_X6_become (tpS ht)) mv_X6_become ml_X9_312 rfl (tpS ht).1 rfl rfl rfl (Nat.le_of_ble_eq_true rfl) 63 rfl dX9_tape_60 ?_
            refine tm_iconst (1) rfl 64 rfl dX9_tape_63 ?_
            exact tm_iret (by rw [tpK_3 hin h11 (tp_no h28 h33 h39) (nlt_ge h46)]; rfl) (by rw [tpK_3 hin h11 (tp_no h28 h33 h39) (nlt_ge h46)]; rfl) (by rw [tpK_3 hin h11 (tp_no h28 h33 h39) (nlt_ge h46)]; rfl) dX9_tape_64
          · refine tm_bipush (-14) (by decide) 51 rfl dX9_tape_49 ?_
            exact tm_iret (by rw [tpK_6 hin h11 (tp_no h28 h33 h39) (fa_of_nle h46)]; rfl) (by rw [tpK_6 hin h11 (tp_no h28 h33 h39) (fa_of_nle h46)]; rfl) (by rw [tpK_6 hin h11 (tp_no h28 h33 h39) (fa_of_nle h46)]; rfl) dX9_tape_51
        · refine tm_bipush (-2) (by decide) 44 rfl dX9_tape_42 ?_
          exact tm_iret (by first | (rw [tpK_2 hin h11 (Or.inl h28)]; rfl) | (rw [tpK_2 hin h11 (Or.inr (Or.inl h33))]; rfl) | (rw [tpK_2 hin h11 (Or.inr (Or.inr (lt_of_nle h39)))]; rfl)) (by first | (rw [tpK_2 hin h11 (Or.inl h28)]; rfl) | (rw [tpK_2 hin h11 (Or.inr (Or.inl h33))]; rfl) | (rw [tpK_2 hin h11 (Or.inr (Or.inr (lt_of_nle h39)))]; rfl)) (by first | (rw [tpK_2 hin h11 (Or.inl h28)]; rfl) | (rw [tpK_2 hin h11 (Or.inr (Or.inl h33))]; rfl) | (rw [tpK_2 hin h11 (Or.inr (Or.inr (lt_of_nle h39)))]; rfl)) dX9_tape_44
  · refine tm_aload_0 15 rfl dX9_tape_14 ?_
    refine tm_getr fl_X9_34 rfl rfl 18 rfl dX9_tape_15 ?_
    refine tm_iload_1 19 rfl dX9_tape_18 ?_
    refine tm_aald2 rfl (ix_nI ht (by decide)) (tp_at ht) 20 rfl dX9_tape_19 ?_
    refine tm_iconst (-1) rfl 21 rfl dX9_tape_20 ?_
    refine tm_iconst (0) rfl 22 rfl dX9_tape_21 ?_
    refine tm_callV_V (ci := 5) (c_X6_become (tpS ht)) mv_X6_become ml_X9_312 rfl (tpS ht).1 rfl rfl rfl (Nat.le_of_ble_eq_true rfl) 25 rfl dX9_tape_22 ?_
    refine tm_iconst (1) rfl 26 rfl dX9_tape_25 ?_
    exact tm_iret (by rw [tpK_5 hin h11]; rfl) (by rw [tpK_5 hin h11]; rfl) (by rw [tpK_5 hin h11]; rfl) dX9_tape_26

set_option maxRecDepth 100000 in
set_option maxHeartbeats 4000000 in
theorem c_X10_tape_no {g : GC} {d : Nat} {M : MI} {L : ML} {x so n : Int32} (h : inN x 6 = false) : CfI g (d + 2) yX10_tape cX10_tape 5 .int [rf g 54, .int x, .int so, .int n] M L (tpA (tpK x so n)) (M) (L) := by
  refine cfI_of (own := RX10) (l := [some (rf g 54), some (.int x), some (.int so), some (.int n), none]) 1 rfl rfl rfl (Nat.le_of_ble_eq_true rfl) ?_
  refine tm_iload_1 1 rfl dX10_tape_0 ?_
  refine tm_callS_I (c_X10_isTape) ms_X10_isTape ml_X10_244 rfl rfl (Nat.le_of_ble_eq_true rfl) 4 rfl dX10_tape_1 ?_
  refine tm_if_ne_f 7 ((bI_0 _).mpr h) rfl rfl dX10_tape_4 ?_
  refine tm_iconst (-1) rfl 8 rfl dX10_tape_7 ?_
  exact tm_iret (by rw [tpK_1 h]; rfl) rfl rfl dX10_tape_8

theorem so_1 {so : Int32} (h : btw so.toInt64 (-1) 4 = false) : ¬ so = -1 ∧ (so < 0 ∨ 4 < so) := by
  rw [btw_ab (-1) 4 rfl rfl] at h
  have h1 := of_decide_eq_false h
  constructor
  · intro q
    rw [q] at h1
    exact h1 (by decide)
  · rw [fa_lt, fa_lt]
    have e : (0 : Int32).toInt = 0 := rfl
    have e4 : (4 : Int32).toInt = 4 := rfl
    omega
theorem so_2 {so : Int32} (h : btw so.toInt64 (-1) 4 = true) (h2 : so < 0) : so = -1 := by
  rw [btw_ab (-1) 4 rfl rfl] at h
  have h1 := of_decide_eq_true h
  rw [fa_lt] at h2
  rw [fa_eq]
  have e : (0 : Int32).toInt = 0 := rfl
  have e1 : (-1 : Int32).toInt = -1 := rfl
  omega
theorem so_3 {so : Int32} (h : btw so.toInt64 (-1) 4 = true) (h2 : ¬ so < 0) : ¬ so = -1 ∧ ¬ 4 < so := by
  rw [btw_ab (-1) 4 rfl rfl] at h
  have h1 := of_decide_eq_true h
  constructor
  · intro q; rw [q] at h2; exact h2 (by decide)
  · rw [fa_lt]
    have e4 : (4 : Int32).toInt = 4 := rfl
    omega
set_option maxRecDepth 100000 in
set_option maxHeartbeats 4000000 in
theorem c_X10_tape_clear {g : GC} {d : Nat} {M : MI} {L : ML} {t : Nat} (ht : t < 6) {n : Int32} : CfI g (d + 2) yX10_tape cX10_tape 5 .int [rf g 54, .int (nI t), .int (-1), .int n] M L (1) (s1 (s1 M 63 t (-1)) 64 t 0) (zLk L (tM t) 60) := by
  have hin : inN (nI t) 6 = true := by rw [inN_nI (by omega)]; exact decide_eq_true ht
  refine cfI_of (own := RX10) (l := [some (rf g 54), some (.int (nI t)), some (.int (-1)), some (.int n), none]) 1 rfl rfl rfl (Nat.le_of_ble_eq_true rfl) ?_
  refine tm_iload_1 1 rfl dX10_tape_0 ?_
  refine tm_callS_I (c_X10_isTape) ms_X10_isTape ml_X10_244 rfl rfl (Nat.le_of_ble_eq_true rfl) 4 rfl dX10_tape_1 ?_
  refine tm_if_ne_t 9 ((bI_n0 _).mpr hin) rfl dX10_tape_4 ?_
  refine tm_iload_2 10 rfl dX10_tape_9 ?_
  refine tm_i2l 11 rfl dX10_tape_10 ?_
  refine tm_ldc2 kl_X10_247 14 rfl dX10_tape_11 ?_
  refine tm_ldc2 kl_X10_66 17 rfl dX10_tape_14 ?_
  refine tm_callS_I (c_X10_in) ms_X10_in ml_X10_60 rfl rfl (Nat.le_of_ble_eq_true rfl) 20 rfl dX10_tape_17 ?_
  refine tm_if_eq_f 23 (by rw [show btw (-1 : Int32).toInt64 (-1) 4 = true by decide]; decide) rfl rfl dX10_tape_20 ?_
  refine tm_iload_2 24 rfl dX10_tape_23 ?_
  refine tm_if_lt_t 36 (by decide) rfl dX10_tape_24 ?_
  refine tm_iload_2 37 rfl dX10_tape_36 ?_
  refine tm_if_lt_t 47 (by decide) rfl dX10_tape_37 ?_
  refine tm_aload_0 48 rfl dX10_tape_47 ?_
  refine tm_getr fl_X10_37 rfl rfl 51 rfl dX10_tape_48 ?_
  refine tm_iload_1 52 rfl dX10_tape_51 ?_
  refine tm_iload_2 53 rfl dX10_tape_52 ?_
  refine tm_ast rfl (ix := t) (ix_nI ht (by decide)) 54 rfl dX10_tape_53 ?_
  refine tm_aload_0 55 rfl dX10_tape_54 ?_
  refine tm_getr fl_X10_40 rfl rfl 58 rfl dX10_tape_55 ?_
  refine tm_iload_1 59 rfl dX10_tape_58 ?_
  refine tm_iload_2 60 rfl dX10_tape_59 ?_
  refine tm_if_ge_f 63 (by decide) rfl rfl dX10_tape_60 ?_
  refine tm_iconst (0) rfl 64 rfl dX10_tape_63 ?_
  refine tm_goto 68 rfl dX10_tape_64 ?_
  refine tm_ast rfl (ix := t) (ix_nI ht (by decide)) 69 rfl dX10_tape_68 ?_
  refine tm_iconst (0) rfl 70 rfl dX10_tape_69 ?_
  refine tm_istore_4 (by decide) rfl 72 rfl dX10_tape_70 ?_
  refine tm_mem rfl (zLk_0 L (tM t)) ?_
  refine tm_loop (N := 60) (fun k => Tm g (d + 2) RX10 cX10_tape 5 (some .int) (QI g (1) (s1 (s1 M 63 t (-1)) 64 t 0) (zLk L (tM t) 60)) 72 [some (rf g 54), some (.int (nI t)), some (.int (-1)), some (.int n), some (.int (nI k))] [] (s1 (s1 M 63 t (-1)) 64 t 0) (zLk L (tM t) k)) (fun k hk ih => ?_) ?_
  · refine tm_iload_4 74 rfl dX10_tape_72 ?_
    refine tm_bipush (60) (by decide) 76 rfl dX10_tape_74 ?_
    refine tm_icmp_ge_f 79 (nI_ge hk (by decide)) rfl rfl dX10_tape_76 ?_
    refine tm_aload_0 80 rfl dX10_tape_79 ?_
    refine tm_getr fl_X10_45 rfl rfl 83 rfl dX10_tape_80 ?_
    refine tm_iload_1 84 rfl dX10_tape_83 ?_
    refine tm_aald3 rfl (ix_nI ht (by decide)) (mp_at ht) 85 rfl dX10_tape_84 ?_
    refine tm_iload_4 87 rfl dX10_tape_85 ?_
    refine tm_lconst 0 rfl 88 rfl dX10_tape_87 ?_
    refine tm_last (mpS ht) (ix := k) (ix_nI hk (by decide)) 89 rfl dX10_tape_88 ?_
    refine tm_iinc_4 (nI (k + 1)) (iinc1 k) (by decide) rfl 92 rfl dX10_tape_89 ?_
    refine tm_goto 72 rfl dX10_tape_92 ?_
    rw [zLk_s]
    exact ih
  · refine tm_iload_4 74 rfl dX10_tape_72 ?_
    refine tm_bipush (60) (by decide) 76 rfl dX10_tape_74 ?_
    refine tm_icmp_ge_t 95 (nI_le (Nat.le_refl 60) (by decide)) rfl dX10_tape_76 ?_
    refine tm_iconst (1) rfl 96 rfl dX10_tape_95 ?_
    exact tm_iret rfl rfl rfl dX10_tape_96

set_option maxRecDepth 100000 in
set_option maxHeartbeats 4000000 in
theorem c_X10_tape_set {g : GC} {d : Nat} {M : MI} {L : ML} {t : Nat} (ht : t < 6) {so n : Int32} (hb : btw so.toInt64 (-1) 4 = true) (h0 : ¬ so < 0) (h6 : n ≤ 60) (h7 : ¬ n < 0) : CfI g (d + 2) yX10_tape cX10_tape 5 .int [rf g 54, .int (nI t), .int so, .int n] M L (1) (s1 (s1 M 63 t so) 64 t n) (zLk L (tM t) 60) := by
  have hin : inN (nI t) 6 = true := by rw [inN_nI (by omega)]; exact decide_eq_true ht
  refine cfI_of (own := RX10) (l := [some (rf g 54), some (.int (nI t)), some (.int so), some (.int n), none]) 1 rfl rfl rfl (Nat.le_of_ble_eq_true rfl) ?_
  refine tm_iload_1 1 rfl dX10_tape_0 ?_
  refine tm_callS_I (c_X10_isTape) ms_X10_isTape ml_X10_244 rfl rfl (Nat.le_of_ble_eq_true rfl) 4 rfl dX10_tape_1 ?_
  refine tm_if_ne_t 9 ((bI_n0 _).mpr hin) rfl dX10_tape_4 ?_
  refine tm_iload_2 10 rfl dX10_tape_9 ?_
  refine tm_i2l 11 rfl dX10_tape_10 ?_
  refine tm_ldc2 kl_X10_247 14 rfl dX10_tape_11 ?_
  refine tm_ldc2 kl_X10_66 17 rfl dX10_tape_14 ?_
  refine tm_callS_I (c_X10_in) ms_X10_in ml_X10_60 rfl rfl (Nat.le_of_ble_eq_true rfl) 20 rfl dX10_tape_17 ?_
  refine tm_if_eq_f 23 ((bI_n0 _).mpr hb) rfl rfl dX10_tape_20 ?_
  refine tm_iload_2 24 rfl dX10_tape_23 ?_
  refine tm_if_lt_f 27 (h0) rfl rfl dX10_tape_24 ?_
  refine tm_iload_3 28 rfl dX10_tape_27 ?_
  refine tm_bipush (60) (by decide) 30 rfl dX10_tape_28 ?_
  refine tm_icmp_le_t 36 (h6) rfl dX10_tape_30 ?_
  refine tm_iload_2 37 rfl dX10_tape_36 ?_
  refine tm_if_lt_f 40 (h0) rfl rfl dX10_tape_37 ?_
  refine tm_iload_3 41 rfl dX10_tape_40 ?_
  refine tm_if_ge_t 47 (fa_of_nlt h7) rfl dX10_tape_41 ?_
  refine tm_aload_0 48 rfl dX10_tape_47 ?_
  refine tm_getr fl_X10_37 rfl rfl 51 rfl dX10_tape_48 ?_
  refine tm_iload_1 52 rfl dX10_tape_51 ?_
  refine tm_iload_2 53 rfl dX10_tape_52 ?_
  refine tm_ast rfl (ix := t) (ix_nI ht (by decide)) 54 rfl dX10_tape_53 ?_
  refine tm_aload_0 55 rfl dX10_tape_54 ?_
  refine tm_getr fl_X10_40 rfl rfl 58 rfl dX10_tape_55 ?_
  refine tm_iload_1 59 rfl dX10_tape_58 ?_
  refine tm_iload_2 60 rfl dX10_tape_59 ?_
  refine tm_if_ge_t 67 (fa_of_nlt h0) rfl dX10_tape_60 ?_
  refine tm_iload_3 68 rfl dX10_tape_67 ?_
  refine tm_ast rfl (ix := t) (ix_nI ht (by decide)) 69 rfl dX10_tape_68 ?_
  refine tm_iconst (0) rfl 70 rfl dX10_tape_69 ?_
  refine tm_istore_4 (by decide) rfl 72 rfl dX10_tape_70 ?_
  refine tm_mem rfl (zLk_0 L (tM t)) ?_
  refine tm_loop (N := 60) (fun k => Tm g (d + 2) RX10 cX10_tape 5 (some .int) (QI g (1) (s1 (s1 M 63 t so) 64 t n) (zLk L (tM t) 60)) 72 [some (rf g 54), some (.int (nI t)), some (.int so), some (.int n), some (.int (nI k))] [] (s1 (s1 M 63 t so) 64 t n) (zLk L (tM t) k)) (fun k hk ih => ?_) ?_
  · refine tm_iload_4 74 rfl dX10_tape_72 ?_
    refine tm_bipush (60) (by decide) 76 rfl dX10_tape_74 ?_
    refine tm_icmp_ge_f 79 (nI_ge hk (by decide)) rfl rfl dX10_tape_76 ?_
    refine tm_aload_0 80 rfl dX10_tape_79 ?_
    refine tm_getr fl_X10_45 rfl rfl 83 rfl dX10_tape_80 ?_
    refine tm_iload_1 84 rfl dX10_tape_83 ?_
    refine tm_aald3 rfl (ix_nI ht (by decide)) (mp_at ht) 85 rfl dX10_tape_84 ?_
    refine tm_iload_4 87 rfl dX10_tape_85 ?_
    refine tm_lconst 0 rfl 88 rfl dX10_tape_87 ?_
    refine tm_last (mpS ht) (ix := k) (ix_nI hk (by decide)) 89 rfl dX10_tape_88 ?_
    refine tm_iinc_4 (nI (k + 1)) (iinc1 k) (by decide) rfl 92 rfl dX10_tape_89 ?_
    refine tm_goto 72 rfl dX10_tape_92 ?_
    rw [zLk_s]
    exact ih
  · refine tm_iload_4 74 rfl dX10_tape_72 ?_
    refine tm_bipush (60) (by decide) 76 rfl dX10_tape_74 ?_
    refine tm_icmp_ge_t 95 (nI_le (Nat.le_refl 60) (by decide)) rfl dX10_tape_76 ?_
    refine tm_iconst (1) rfl 96 rfl dX10_tape_95 ?_
    exact tm_iret rfl rfl rfl dX10_tape_96

set_option maxRecDepth 100000 in
set_option maxHeartbeats 4000000 in
theorem c_X10_tape_bad {g : GC} {d : Nat} {M : MI} {L : ML} {t : Nat} (ht : t < 6) {so n : Int32} (hb : btw so.toInt64 (-1) 4 = false ∨ (¬ so < 0 ∧ ¬ n ≤ 60)) : CfI g (d + 2) yX10_tape cX10_tape 5 .int [rf g 54, .int (nI t), .int so, .int n] M L (-2) (M) (L) := by
  have hin : inN (nI t) 6 = true := by rw [inN_nI (by omega)]; exact decide_eq_true ht
  refine cfI_of (own := RX10) (l := [some (rf g 54), some (.int (nI t)), some (.int so), some (.int n), none]) 1 rfl rfl rfl (Nat.le_of_ble_eq_true rfl) ?_
  refine tm_iload_1 1 rfl dX10_tape_0 ?_
  refine tm_callS_I (c_X10_isTape) ms_X10_isTape ml_X10_244 rfl rfl (Nat.le_of_ble_eq_true rfl) 4 rfl dX10_tape_1 ?_
  refine tm_if_ne_t 9 ((bI_n0 _).mpr hin) rfl dX10_tape_4 ?_
  refine tm_iload_2 10 rfl dX10_tape_9 ?_
  refine tm_i2l 11 rfl dX10_tape_10 ?_
  refine tm_ldc2 kl_X10_247 14 rfl dX10_tape_11 ?_
  refine tm_ldc2 kl_X10_66 17 rfl dX10_tape_14 ?_
  refine tm_callS_I (c_X10_in) ms_X10_in ml_X10_60 rfl rfl (Nat.le_of_ble_eq_true rfl) 20 rfl dX10_tape_17 ?_
  refine tm_if_eqB 33 23 rfl rfl dX10_tape_20 (fun h20 => ?_) (fun h20 => ?_)
  · refine tm_bipush (-2) (by decide) 35 rfl dX10_tape_33 ?_
    exact tm_iret rfl rfl rfl dX10_tape_35
  · refine tm_iload_2 24 rfl dX10_tape_23 ?_
    refine tm_if_lt 36 27 rfl rfl dX10_tape_24 (fun h24 => ?_) (fun h24 => ?_)
    · exfalso
      rcases hb with q | q
      · rw [q] at h20; cases h20
      · first | exact q.1 h24 | exact q.2 h30
    · refine tm_iload_3 28 rfl dX10_tape_27 ?_
      refine tm_bipush (60) (by decide) 30 rfl dX10_tape_28 ?_
      refine tm_icmp_le 36 33 rfl rfl dX10_tape_30 (fun h30 => ?_) (fun h30 => ?_)
      · exfalso
        rcases hb with q | q
        · rw [q] at h20; cases h20
        · first | exact q.1 h24 | exact q.2 h30
      · refine tm_bipush (-2) (by decide) 35 rfl dX10_tape_33 ?_
        exact tm_iret rfl rfl rfl dX10_tape_35

set_option maxRecDepth 100000 in
set_option maxHeartbeats 4000000 in
theorem c_X10_tape_size {g : GC} {d : Nat} {M : MI} {L : ML} {t : Nat} (ht : t < 6) {so n : Int32} (hb : btw so.toInt64 (-1) 4 = true) (h0 : ¬ so < 0) (h6 : n ≤ 60) (h7 : n < 0) : CfI g (d + 2) yX10_tape cX10_tape 5 .int [rf g 54, .int (nI t), .int so, .int n] M L (-14) (M) (L) := by
  have hin : inN (nI t) 6 = true := by rw [inN_nI (by omega)]; exact decide_eq_true ht
  refine cfI_of (own := RX10) (l := [some (rf g 54), some (.int (nI t)), some (.int so), some (.int n), none]) 1 rfl rfl rfl (Nat.le_of_ble_eq_true rfl) ?_
  refine tm_iload_1 1 rfl dX10_tape_0 ?_
  refine tm_callS_I (c_X10_isTape) ms_X10_isTape ml_X10_244 rfl rfl (Nat.le_of_ble_eq_true rfl) 4 rfl dX10_tape_1 ?_
  refine tm_if_ne_t 9 ((bI_n0 _).mpr hin) rfl dX10_tape_4 ?_
  refine tm_iload_2 10 rfl dX10_tape_9 ?_
  refine tm_i2l 11 rfl dX10_tape_10 ?_
  refine tm_ldc2 kl_X10_247 14 rfl dX10_tape_11 ?_
  refine tm_ldc2 kl_X10_66 17 rfl dX10_tape_14 ?_
  refine tm_callS_I (c_X10_in) ms_X10_in ml_X10_60 rfl rfl (Nat.le_of_ble_eq_true rfl) 20 rfl dX10_tape_17 ?_
  refine tm_if_eq_f 23 ((bI_n0 _).mpr hb) rfl rfl dX10_tape_20 ?_
  refine tm_iload_2 24 rfl dX10_tape_23 ?_
  refine tm_if_lt_f 27 (h0) rfl rfl dX10_tape_24 ?_
  refine tm_iload_3 28 rfl dX10_tape_27 ?_
  refine tm_bipush (60) (by decide) 30 rfl dX10_tape_28 ?_
  refine tm_icmp_le_t 36 (h6) rfl dX10_tape_30 ?_
  refine tm_iload_2 37 rfl dX10_tape_36 ?_
  refine tm_if_lt_f 40 (h0) rfl rfl dX10_tape_37 ?_
  refine tm_iload_3 41 rfl dX10_tape_40 ?_
  refine tm_if_ge_f 44 ((fa_of_lt h7).2.1) rfl rfl dX10_tape_41 ?_
  refine tm_bipush (-14) (by decide) 46 rfl dX10_tape_44 ?_
  exact tm_iret rfl rfl rfl dX10_tape_46

theorem c_X10_tape_t {g : GC} {d : Nat} {M : MI} {L : ML} {t : Nat} (ht : t < 6) {so n : Int32} : CfI g (d + 2) yX10_tape cX10_tape 5 .int [rf g 54, .int (nI t), .int so, .int n] M L (tpA (tpK (nI t) so n)) (tpM M t so n (tpK (nI t) so n)) (tpL L (tM t) (tpK (nI t) so n)) := by
  have hin : inN (nI t) 6 = true := by rw [inN_nI (by omega)]; exact decide_eq_true ht
  cases hb : btw so.toInt64 (-1) 4
  · obtain ⟨a, b⟩ := so_1 hb
    rw [tpK_2 hin a (b.elim Or.inl (fun q => Or.inr (Or.inl q)))]
    exact c_X10_tape_bad ht (Or.inl hb)
  · by_cases h0 : so < 0
    · have e := so_2 hb h0
      subst e
      rw [tpK_5 hin rfl]
      exact c_X10_tape_clear ht
    · obtain ⟨a, b⟩ := so_3 hb h0
      by_cases h6 : n ≤ 60
      · by_cases h7 : n < 0
        · rw [tpK_6 hin a (tp_no h0 b h6) h7]
          exact c_X10_tape_size ht hb h0 h6 h7
        · rw [tpK_3 hin a (tp_no h0 b h6) h7]
          exact c_X10_tape_set ht hb h0 h6 h7
      · rw [tpK_2 hin a (Or.inr (Or.inr (fa_of_nle h6)))]
        exact c_X10_tape_bad ht (Or.inr ⟨h0, h6⟩)

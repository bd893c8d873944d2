section JoinL
variable {g : GC} {d : Nat} {own : String} {cc : ByteArray} {nL : Nat} {ret : Option FieldType} {Qc : QC} {pc : Nat} {l : List (Option Value)} {st : List Value} {M : MI} {L : ML}
theorem tm_joinL1 {x : Int32} (J : Nat) (V : Int64) (k1 : Tm g d own cc nL ret Qc J l (.long V :: st) M L) (k2 : Tm g d own cc nL ret Qc J l (.long V :: st) M L → Tm g d own cc nL ret Qc pc l (.int x :: st) M L) : Tm g d own cc nL ret Qc pc l (.int x :: st) M L := k2 k1
theorem tm_topL {x V : Int64} (h : V = x) (k : Tm g d own cc nL ret Qc pc l (.long V :: st) M L) : Tm g d own cc nL ret Qc pc l (.long x :: st) M L := h ▸ k
end JoinL
def soOK (so : Int32) : Prop := so = -1 ∨ inN so 5 = true
theorem so_lt {so : Int32} (h : soOK so) : so < 0 ↔ so = -1 := by
  rcases h with rfl | h
  · exact ⟨fun _ => rfl, fun _ => by decide⟩
  · obtain ⟨k, hk, rfl⟩ := inN_of h
    exact ⟨fun q => absurd q (nI_pos (by omega)), fun q => absurd q (neg_ne (by omega))⟩
theorem isL_z {x : Int32} {z : Nat} (hz : z ≤ 60) : btw x.toInt64 0 (nI z - 1).toInt64 = inN x z := by
  apply btw_in
  have q : (nI z).toInt = z := nI_toInt (by omega)
  have e : (1 : Int32).toInt = 1 := rfl
  rw [Int32.toInt_toInt64, fb_subI (by omega) (by omega), q, e]
def itA (so : Int32) (z : Nat) (i : Int32) : Int32 := if so = -1 then -11 else if inN i z = false then -13 else 1
def itL (L : ML) (c : Nat) (so : Int32) (z : Nat) (i : Int32) (v : Int64) : ML := if so = -1 then L else if inN i z = false then L else s1L L c (iN i) (cutV so v)
theorem it_1 {L : ML} {c : Nat} {so : Int32} {z : Nat} {i : Int32} {v : Int64} (h : so = -1) : itA so z i = -11 ∧ itL L c so z i v = L := ⟨if_pos h, if_pos h⟩
theorem it_2 {L : ML} {c : Nat} {so : Int32} {z : Nat} {i : Int32} {v : Int64} (h : ¬ so = -1) (h2 : inN i z = false) : itA so z i = -13 ∧ itL L c so z i v = L := by unfold itA itL; rw [if_neg h, if_pos h2, if_neg h, if_pos h2]; exact ⟨rfl, rfl⟩
theorem it_3 {L : ML} {c : Nat} {so : Int32} {z k : Nat} {v : Int64} (h : ¬ so = -1) (h2 : inN (nI k) z = true) (hk : k < 2 ^ 31) : itA so z (nI k) = 1 ∧ itL L c so z (nI k) v = s1L L c k (cutV so v) := by unfold itA itL; rw [if_neg h, if_neg (by rw [h2]; decide), if_neg h, if_neg (by rw [h2]; decide), iN_nI hk]; exact ⟨rfl, rfl⟩
set_option maxRecDepth 100000 in
set_option maxHeartbeats 4000000 in
theorem c_X9_item_no {g : GC} {d : Nat} {M : MI} {L : ML} {x i : Int32} {v : Int64} (h : inN x 6 = false) : CfI g (d + 1) yX9_item cX9_item 6 .int [rf g 0, .int x, .int i, .long v] M L (-1) (M) (L) := by
  refine cfI_of (own := RX9) (l := [some (rf g 0), some (.int x), some (.int i), some (.long v), none, none]) 1 rfl rfl rfl (Nat.le_of_ble_eq_true rfl) ?_
  refine tm_iload_1 1 rfl dX9_item_0 ?_
  refine tm_callS_I (c_X9_isTape) ms_X9_isTape ml_X9_293 rfl rfl (Nat.le_of_ble_eq_true rfl) 4 rfl dX9_item_1 ?_
  refine tm_if_ne_f 7 ((bI_0 _).mpr h) rfl rfl dX9_item_4 ?_
  refine tm_iconst (-1) rfl 8 rfl dX9_item_7 ?_
  exact tm_iret rfl rfl rfl dX9_item_8

set_option maxRecDepth 100000 in
set_option maxHeartbeats 4000000 in
theorem c_X10_item_no {g : GC} {d : Nat} {M : MI} {L : ML} {x i : Int32} {v : Int64} (h : inN x 6 = false) : CfI g (d + 2) yX10_item cX10_item 5 .int [rf g 54, .int x, .int i, .long v] M L (-1) (M) (L) := by
  refine cfI_of (own := RX10) (l := [some (rf g 54), some (.int x), some (.int i), some (.long v), none]) 0 rfl rfl rfl (Nat.le_of_ble_eq_true rfl) ?_
  refine tm_iload_1 1 rfl dX10_item_0 ?_
  refine tm_callS_I (c_X10_isTape) ms_X10_isTape ml_X10_244 rfl rfl (Nat.le_of_ble_eq_true rfl) 4 rfl dX10_item_1 ?_
  refine tm_if_ne_f 7 ((bI_0 _).mpr h) rfl rfl dX10_item_4 ?_
  refine tm_iconst (-1) rfl 8 rfl dX10_item_7 ?_
  exact tm_iret rfl rfl rfl dX10_item_8

set_option maxRecDepth 100000 in
set_option maxHeartbeats 4000000 in
theorem c_X9_item_t {g : GC} {d : Nat} {M : MI} {L : ML} {t z : Nat} {so : Int32} (ht : t < 6) (hso : M (tJ t) 0 = so) (hz : M (tJ t) 1 = nI z) (hz6 : z ≤ 60) {i : Int32} {v : Int64} : CfI g (d + 1) yX9_item cX9_item 6 .int [rf g 0, .int (nI t), .int i, .long v] M L (itA so z i) (M) (itL L (tJ t + 1) so z i v) := by
  have hin : inN (nI t) 6 = true := by rw [inN_nI (by omega)]; exact decide_eq_true ht
  refine cfI_of (own := RX9) (l := [some (rf g 0), some (.int (nI t)), some (.int i), some (.long v), none, none]) 1 rfl rfl rfl (Nat.le_of_ble_eq_true rfl) ?_
  refine tm_iload_1 1 rfl dX9_item_0 ?_
  refine tm_callS_I (c_X9_isTape) ms_X9_isTape ml_X9_293 rfl rfl (Nat.le_of_ble_eq_true rfl) 4 rfl dX9_item_1 ?_
  refine tm_if_ne_t 9 ((bI_n0 _).mpr hin) rfl dX9_item_4 ?_
  refine tm_aload_0 10 rfl dX9_item_9 ?_
  refine tm_getr fl_X9_34 rfl rfl 13 rfl dX9_item_10 ?_
  refine tm_iload_1 14 rfl dX9_item_13 ?_
  refine tm_aald2 rfl (ix_nI ht (by decide)) (tp_at ht) 15 rfl dX9_item_14 ?_
  refine tm_astore_5 (by decide) rfl 17 rfl dX9_item_15 ?_
  refine tm_aload_5 19 rfl dX9_item_17 ?_
  refine tm_callV_I (ci := 5) (c_X6_holdsNothing (tpS ht)) mv_X6_holdsNothing ml_X9_296 rfl (tpS ht).1 rfl rfl rfl (Nat.le_of_ble_eq_true rfl) 22 rfl dX9_item_19 ?_
  rw [hso]
  refine tm_if_eqB 28 25 rfl rfl dX9_item_22 (fun h22 => ?_) (fun h22 => ?_)
  · refine tm_aload_5 30 rfl dX9_item_28 ?_
    refine tm_iload_2 31 rfl dX9_item_30 ?_
    refine tm_callV_I (ci := 5) (c_X6_hasPlace (tpS ht) hz hz6) mv_X6_hasPlace ml_X9_315 rfl (tpS ht).1 rfl rfl rfl (Nat.le_of_ble_eq_true rfl) 34 rfl dX9_item_31 ?_
    refine tm_if_neB 40 37 rfl rfl dX9_item_34 (fun h34 => ?_) (fun h34 => ?_)
    · obtain ⟨k, hk, rfl⟩ := inN_of h34
      refine tm_aload_5 42 rfl dX9_item_40 ?_
      refine tm_getr fl_X9_304 (tpS ht).1 rfl 45 rfl dX9_item_42 ?_
      refine tm_iload_2 46 rfl dX9_item_45 ?_
      refine tm_aload_5 48 rfl dX9_item_46 ?_
      refine tm_lload_3 49 rfl dX9_item_48 ?_
      refine tm_callV_L (ci := 5) (c_X6_cut (tpS ht) hso) mv_X6_cut ml_X9_318 rfl (tpS ht).1 rfl rfl rfl (Nat.le_of_ble_eq_true rfl) 52 rfl dX9_item_49 ?_
      refine tm_last (tpS ht).2 (ix := k) (ix_nI (by omega) (by decide)) 53 rfl dX9_item_52 ?_
      refine tm_iconst (1) rfl 54 rfl dX9_item_53 ?_
      exact tm_iret (it_3 (L := L) (c := tJ t + 1) (v := v) (of_decide_eq_false h22) h34 (by omega)).1.symm rfl (it_3 (L := L) (c := tJ t + 1) (v := v) (of_decide_eq_false h22) h34 (by omega)).2.symm dX9_item_54
    · refine tm_bipush (-13) (by decide) 39 rfl dX9_item_37 ?_
      exact tm_iret (it_2 (L := L) (c := tJ t + 1) (v := v) (of_decide_eq_false h22) h34).1.symm rfl (it_2 (L := L) (c := tJ t + 1) (v := v) (of_decide_eq_false h22) h34).2.symm dX9_item_39
  · refine tm_bipush (-11) (by decide) 27 rfl dX9_item_25 ?_
    exact tm_iret (it_1 (L := L) (c := tJ t + 1) (z := z) (i := i) (v := v) (of_decide_eq_true h22)).1.symm rfl (it_1 (L := L) (c := tJ t + 1) (z := z) (i := i) (v := v) (of_decide_eq_true h22)).2.symm dX9_item_27

theorem cut_n {so : Int32} {v : Int64} (h0 : ¬ so = 0) (h1 : ¬ so = 1) (h2 : ¬ so = 2) (h3 : ¬ so = 3) (h : soOK so) (hm : ¬ so = -1) : cutV so v = if v = 0 then 0 else 1 := by
  rcases h with q | q
  · exact absurd q hm
  · obtain ⟨k, hk, rfl⟩ := inN_of q
    rcases (show k = 0 ∨ k = 1 ∨ k = 2 ∨ k = 3 ∨ k = 4 by omega) with rfl | rfl | rfl | rfl | rfl
    · exact absurd rfl h0
    · exact absurd rfl h1
    · exact absurd rfl h2
    · exact absurd rfl h3
    · exact cut_4
set_option maxRecDepth 100000 in
set_option maxHeartbeats 4000000 in
theorem c_X10_item_t {g : GC} {d : Nat} {M : MI} {L : ML} {t z : Nat} {so : Int32} (ht : t < 6) (hso : M 63 t = so) (hz : M 64 t = nI z) (hz6 : z ≤ 60) (hs5 : soOK so) {i : Int32} {v : Int64} : CfI g (d + 2) yX10_item cX10_item 5 .int [rf g 54, .int (nI t), .int i, .long v] M L (itA so z i) (M) (itL L (tM t) so z i v) := by
  have hin : inN (nI t) 6 = true := by rw [inN_nI (by omega)]; exact decide_eq_true ht
  refine cfI_of (own := RX10) (l := [some (rf g 54), some (.int (nI t)), some (.int i), some (.long v), none]) 0 rfl rfl rfl (Nat.le_of_ble_eq_true rfl) ?_
  refine tm_iload_1 1 rfl dX10_item_0 ?_
  refine tm_callS_I (c_X10_isTape) ms_X10_isTape ml_X10_244 rfl rfl (Nat.le_of_ble_eq_true rfl) 4 rfl dX10_item_1 ?_
  refine tm_if_ne_t 9 ((bI_n0 _).mpr hin) rfl dX10_item_4 ?_
  refine tm_aload_0 10 rfl dX10_item_9 ?_
  refine tm_getr fl_X10_37 rfl rfl 13 rfl dX10_item_10 ?_
  refine tm_iload_1 14 rfl dX10_item_13 ?_
  refine tm_ald rfl (ix := t) (ix_nI ht (by decide)) 15 rfl dX10_item_14 ?_
  rw [hso]
  refine tm_if_ge 21 18 rfl rfl dX10_item_15 (fun h15 => ?_) (fun h15 => ?_)
  · refine tm_iload_2 22 rfl dX10_item_21 ?_
    refine tm_i2l 23 rfl dX10_item_22 ?_
    refine tm_lconst 0 rfl 24 rfl dX10_item_23 ?_
    refine tm_aload_0 25 rfl dX10_item_24 ?_
    refine tm_getr fl_X10_40 rfl rfl 28 rfl dX10_item_25 ?_
    refine tm_iload_1 29 rfl dX10_item_28 ?_
    refine tm_ald rfl (ix := t) (ix_nI ht (by decide)) 30 rfl dX10_item_29 ?_
    rw [hz]
    refine tm_iconst (1) rfl 31 rfl dX10_item_30 ?_
    refine tm_isub 32 rfl dX10_item_31 ?_
    refine tm_i2l 33 rfl dX10_item_32 ?_
    refine tm_callS_I (c_X10_in) ms_X10_in ml_X10_60 rfl rfl (Nat.le_of_ble_eq_true rfl) 36 rfl dX10_item_33 ?_
    rw [isL_z hz6]
    refine tm_if_neB 42 39 rfl rfl dX10_item_36 (fun h36 => ?_) (fun h36 => ?_)
    · obtain ⟨k, hk, rfl⟩ := inN_of h36
      refine tm_aload_0 43 rfl dX10_item_42 ?_
      refine tm_getr fl_X10_45 rfl rfl 46 rfl dX10_item_43 ?_
      refine tm_iload_1 47 rfl dX10_item_46 ?_
      refine tm_aald3 rfl (ix_nI ht (by decide)) (mp_at ht) 48 rfl dX10_item_47 ?_
      refine tm_iload_2 49 rfl dX10_item_48 ?_
      refine tm_aload_0 50 rfl dX10_item_49 ?_
      refine tm_getr fl_X10_37 rfl rfl 53 rfl dX10_item_50 ?_
      refine tm_iload_1 54 rfl dX10_item_53 ?_
      refine tm_ald rfl (ix := t) (ix_nI ht (by decide)) 55 rfl dX10_item_54 ?_
      refine tm_joinL1 123 (cutV so v) ?_ (fun hJ123 => ?_)
      · refine tm_last (mpS ht) (ix := k) (ix_nI (by omega) (by decide)) 124 rfl dX10_item_123 ?_
        refine tm_iconst (1) rfl 125 rfl dX10_item_124 ?_
        exact tm_iret (it_3 (L := L) (c := tM t) (v := v) (fun q => nlt_ge h15 ((so_lt hs5).mpr q)) h36 (by omega)).1.symm rfl (it_3 (L := L) (c := tM t) (v := v) (fun q => nlt_ge h15 ((so_lt hs5).mpr q)) h36 (by omega)).2.symm dX10_item_125
      · rw [hso]
        refine tm_if_ne 65 58 rfl rfl dX10_item_55 (fun h55 => ?_) (fun h55 => ?_)
        · refine tm_aload_0 66 rfl dX10_item_65 ?_
          refine tm_getr fl_X10_37 rfl rfl 69 rfl dX10_item_66 ?_
          refine tm_iload_1 70 rfl dX10_item_69 ?_
          refine tm_ald rfl (ix := t) (ix_nI ht (by decide)) 71 rfl dX10_item_70 ?_
          rw [hso]
          refine tm_iconst (1) rfl 72 rfl dX10_item_71 ?_
          refine tm_icmp_ne 82 75 rfl rfl dX10_item_72 (fun h72 => ?_) (fun h72 => ?_)
          · refine tm_aload_0 83 rfl dX10_item_82 ?_
            refine tm_getr fl_X10_37 rfl rfl 86 rfl dX10_item_83 ?_
            refine tm_iload_1 87 rfl dX10_item_86 ?_
            refine tm_ald rfl (ix := t) (ix_nI ht (by decide)) 88 rfl dX10_item_87 ?_
            rw [hso]
            refine tm_iconst (2) rfl 89 rfl dX10_item_88 ?_
            refine tm_icmp_ne 98 92 rfl rfl dX10_item_89 (fun h89 => ?_) (fun h89 => ?_)
            · refine tm_aload_0 99 rfl dX10_item_98 ?_
              refine tm_getr fl_X10_37 rfl rfl 102 rfl dX10_item_99 ?_
              refine tm_iload_1 103 rfl dX10_item_102 ?_
              refine tm_ald rfl (ix := t) (ix_nI ht (by decide)) 104 rfl dX10_item_103 ?_
              rw [hso]
              refine tm_iconst (3) rfl 105 rfl dX10_item_104 ?_
              refine tm_icmp_ne 112 108 rfl rfl dX10_item_105 (fun h105 => ?_) (fun h105 => ?_)
              · refine tm_lload_3 113 rfl dX10_item_112 ?_
                refine tm_lconst 0 rfl 114 rfl dX10_item_113 ?_
                refine tm_lcmp 115 rfl dX10_item_114 ?_
                refine tm_if_eq 122 118 rfl rfl dX10_item_115 (fun h115 => ?_) (fun h115 => ?_)
                · refine tm_lconst 0 rfl 123 rfl dX10_item_122 ?_
                  exact tm_topL (by first | (rw [h55, cut_0]) | (rw [h72, cut_1]) | (rw [h89, cut_2]) | (rw [h105, cut_3]) | (rw [cut_n h55 h72 h89 h105 hs5 (fun q => nlt_ge h15 ((so_lt hs5).mpr q)), if_pos ((lgc_eq v 0).mp h115)]) | (rw [cut_n h55 h72 h89 h105 hs5 (fun q => nlt_ge h15 ((so_lt hs5).mpr q)), if_neg (fun q => h115 ((lgc_eq v 0).mpr q))])) hJ123
                · refine tm_lconst 1 rfl 119 rfl dX10_item_118 ?_
                  refine tm_goto 123 rfl dX10_item_119 ?_
                  exact tm_topL (by first | (rw [h55, cut_0]) | (rw [h72, cut_1]) | (rw [h89, cut_2]) | (rw [h105, cut_3]) | (rw [cut_n h55 h72 h89 h105 hs5 (fun q => nlt_ge h15 ((so_lt hs5).mpr q)), if_pos ((lgc_eq v 0).mp h115)]) | (rw [cut_n h55 h72 h89 h105 hs5 (fun q => nlt_ge h15 ((so_lt hs5).mpr q)), if_neg (fun q => h115 ((lgc_eq v 0).mpr q))])) hJ123
              · refine tm_lload_3 109 rfl dX10_item_108 ?_
                refine tm_goto 123 rfl dX10_item_109 ?_
                exact tm_topL (by first | (rw [h55, cut_0]) | (rw [h72, cut_1]) | (rw [h89, cut_2]) | (rw [h105, cut_3]) | (rw [cut_n h55 h72 h89 h105 hs5 (fun q => nlt_ge h15 ((so_lt hs5).mpr q)), if_pos ((lgc_eq v 0).mp h115)]) | (rw [cut_n h55 h72 h89 h105 hs5 (fun q => nlt_ge h15 ((so_lt hs5).mpr q)), if_neg (fun q => h115 ((lgc_eq v 0).mpr q))])) hJ123
            · refine tm_lload_3 93 rfl dX10_item_92 ?_
              refine tm_l2i 94 rfl dX10_item_93 ?_
              refine tm_i2l 95 rfl dX10_item_94 ?_
              refine tm_goto 123 rfl dX10_item_95 ?_
              exact tm_topL (by first | (rw [h55, cut_0]) | (rw [h72, cut_1]) | (rw [h89, cut_2]) | (rw [h105, cut_3]) | (rw [cut_n h55 h72 h89 h105 hs5 (fun q => nlt_ge h15 ((so_lt hs5).mpr q)), if_pos ((lgc_eq v 0).mp h115)]) | (rw [cut_n h55 h72 h89 h105 hs5 (fun q => nlt_ge h15 ((so_lt hs5).mpr q)), if_neg (fun q => h115 ((lgc_eq v 0).mpr q))])) hJ123
          · refine tm_lload_3 76 rfl dX10_item_75 ?_
            refine tm_l2i 77 rfl dX10_item_76 ?_
            refine tm_i2s 78 rfl dX10_item_77 ?_
            refine tm_i2l 79 rfl dX10_item_78 ?_
            refine tm_goto 123 rfl dX10_item_79 ?_
            exact tm_topL (by first | (rw [h55, cut_0]) | (rw [h72, cut_1]) | (rw [h89, cut_2]) | (rw [h105, cut_3]) | (rw [cut_n h55 h72 h89 h105 hs5 (fun q => nlt_ge h15 ((so_lt hs5).mpr q)), if_pos ((lgc_eq v 0).mp h115)]) | (rw [cut_n h55 h72 h89 h105 hs5 (fun q => nlt_ge h15 ((so_lt hs5).mpr q)), if_neg (fun q => h115 ((lgc_eq v 0).mpr q))])) hJ123
        · refine tm_lload_3 59 rfl dX10_item_58 ?_
          refine tm_l2i 60 rfl dX10_item_59 ?_
          refine tm_i2b 61 rfl dX10_item_60 ?_
          refine tm_i2l 62 rfl dX10_item_61 ?_
          refine tm_goto 123 rfl dX10_item_62 ?_
          exact tm_topL (by first | (rw [h55, cut_0]) | (rw [h72, cut_1]) | (rw [h89, cut_2]) | (rw [h105, cut_3]) | (rw [cut_n h55 h72 h89 h105 hs5 (fun q => nlt_ge h15 ((so_lt hs5).mpr q)), if_pos ((lgc_eq v 0).mp h115)]) | (rw [cut_n h55 h72 h89 h105 hs5 (fun q => nlt_ge h15 ((so_lt hs5).mpr q)), if_neg (fun q => h115 ((lgc_eq v 0).mpr q))])) hJ123
    · refine tm_bipush (-13) (by decide) 41 rfl dX10_item_39 ?_
      exact tm_iret (it_2 (L := L) (c := tM t) (v := v) (fun q => nlt_ge h15 ((so_lt hs5).mpr q)) h36).1.symm rfl (it_2 (L := L) (c := tM t) (v := v) (fun q => nlt_ge h15 ((so_lt hs5).mpr q)) h36).2.symm dX10_item_41
  · refine tm_bipush (-11) (by decide) 20 rfl dX10_item_18 ?_
    exact tm_iret (it_1 (L := L) (c := tM t) (z := z) (i := i) (v := v) ((so_lt hs5).mp (fa_of_nle h15))).1.symm rfl (it_1 (L := L) (c := tM t) (z := z) (i := i) (v := v) ((so_lt hs5).mp (fa_of_nle h15))).2.symm dX10_item_20

def noL : Int64 := -9223372036854775808
def pkA (row : Nat → Int64) (z : Nat) (i : Int32) : Int64 := if inN i z = true then row (iN i) else noL
theorem pk_1 {row : Nat → Int64} {z : Nat} {i : Int32} (h : inN i z = false) : pkA row z i = noL := if_neg (by rw [h]; decide)
theorem pk_2 {row : Nat → Int64} {z k : Nat} (h : inN (nI k) z = true) (hk : k < 2 ^ 31) : pkA row z (nI k) = row k := by unfold pkA; rw [if_pos h, iN_nI hk]
set_option maxRecDepth 100000 in
set_option maxHeartbeats 4000000 in
theorem c_X9_peek_no {g : GC} {d : Nat} {M : MI} {L : ML} {x i : Int32} (h : inN x 6 = false) : CfL g (d + 1) yX9_peek cX9_peek 3 [rf g 0, .int x, .int i] M L (noL) (M) (L) := by
  refine cfL_of (own := RX9) (l := [some (rf g 0), some (.int x), some (.int i)]) 0 rfl rfl rfl (Nat.le_of_ble_eq_true rfl) ?_
  refine tm_iload_1 1 rfl dX9_peek_0 ?_
  refine tm_callS_I (c_X9_isTape) ms_X9_isTape ml_X9_293 rfl rfl (Nat.le_of_ble_eq_true rfl) 4 rfl dX9_peek_1 ?_
  refine tm_if_eq_t 20 ((bI_0 _).mpr h) rfl dX9_peek_4 ?_
  refine tm_ldc2 kl_X9_270 23 rfl dX9_peek_20 ?_
  exact tm_lret rfl rfl rfl dX9_peek_23

set_option maxRecDepth 100000 in
set_option maxHeartbeats 4000000 in
theorem c_X10_peek_no {g : GC} {d : Nat} {M : MI} {L : ML} {x i : Int32} (h : inN x 6 = false) : CfL g (d + 2) yX10_peek cX10_peek 3 [rf g 54, .int x, .int i] M L (noL) (M) (L) := by
  refine cfL_of (own := RX10) (l := [some (rf g 54), some (.int x), some (.int i)]) 0 rfl rfl rfl (Nat.le_of_ble_eq_true rfl) ?_
  refine tm_iload_1 1 rfl dX10_peek_0 ?_
  refine tm_callS_I (c_X10_isTape) ms_X10_isTape ml_X10_244 rfl rfl (Nat.le_of_ble_eq_true rfl) 4 rfl dX10_peek_1 ?_
  refine tm_if_eq_t 36 ((bI_0 _).mpr h) rfl dX10_peek_4 ?_
  refine tm_ldc2 kl_X10_172 39 rfl dX10_peek_36 ?_
  exact tm_lret rfl rfl rfl dX10_peek_39

set_option maxRecDepth 100000 in
set_option maxHeartbeats 4000000 in
theorem c_X9_peek_t {g : GC} {d : Nat} {M : MI} {L : ML} {t z : Nat} {so : Int32} (ht : t < 6) (hso : M (tJ t) 0 = so) (hz : M (tJ t) 1 = nI z) (hz6 : z ≤ 60) {i : Int32} : CfL g (d + 1) yX9_peek cX9_peek 3 [rf g 0, .int (nI t), .int i] M L (pkA (L (tJ t + 1)) z i) (M) (L) := by
  have hin : inN (nI t) 6 = true := by rw [inN_nI (by omega)]; exact decide_eq_true ht
  refine cfL_of (own := RX9) (l := [some (rf g 0), some (.int (nI t)), some (.int i)]) 0 rfl rfl rfl (Nat.le_of_ble_eq_true rfl) ?_
  refine tm_iload_1 1 rfl dX9_peek_0 ?_
  refine tm_callS_I (c_X9_isTape) ms_X9_isTape ml_X9_293 rfl rfl (Nat.le_of_ble_eq_true rfl) 4 rfl dX9_peek_1 ?_
  refine tm_if_eq_f 7 ((bI_n0 _).mpr hin) rfl rfl dX9_peek_4 ?_
  refine tm_aload_0 8 rfl dX9_peek_7 ?_
  refine tm_getr fl_X9_34 rfl rfl 11 rfl dX9_peek_8 ?_
  refine tm_iload_1 12 rfl dX9_peek_11 ?_
  refine tm_aald2 rfl (ix_nI ht (by decide)) (tp_at ht) 13 rfl dX9_peek_12 ?_
  refine tm_iload_2 14 rfl dX9_peek_13 ?_
  refine tm_callV_I (ci := 5) (c_X6_hasPlace (tpS ht) hz hz6) mv_X6_hasPlace ml_X9_315 rfl (tpS ht).1 rfl rfl rfl (Nat.le_of_ble_eq_true rfl) 17 rfl dX9_peek_14 ?_
  refine tm_if_neB 24 20 rfl rfl dX9_peek_17 (fun h17 => ?_) (fun h17 => ?_)
  · obtain ⟨k, hk, rfl⟩ := inN_of h17
    refine tm_aload_0 25 rfl dX9_peek_24 ?_
    refine tm_getr fl_X9_34 rfl rfl 28 rfl dX9_peek_25 ?_
    refine tm_iload_1 29 rfl dX9_peek_28 ?_
    refine tm_aald2 rfl (ix_nI ht (by decide)) (tp_at ht) 30 rfl dX9_peek_29 ?_
    refine tm_getr fl_X9_304 (tpS ht).1 rfl 33 rfl dX9_peek_30 ?_
    refine tm_iload_2 34 rfl dX9_peek_33 ?_
    refine tm_lald (tpS ht).2 (ix := k) (ix_nI (by omega) (by decide)) 35 rfl dX9_peek_34 ?_
    exact tm_lret (pk_2 h17 (by omega)).symm rfl rfl dX9_peek_35
  · refine tm_ldc2 kl_X9_270 23 rfl dX9_peek_20 ?_
    exact tm_lret (pk_1 h17).symm rfl rfl dX9_peek_23

set_option maxRecDepth 100000 in
set_option maxHeartbeats 4000000 in
theorem c_X10_peek_t {g : GC} {d : Nat} {M : MI} {L : ML} {t z : Nat} {so : Int32} (ht : t < 6) (hso : M 63 t = so) (hz : M 64 t = nI z) (hz6 : z ≤ 60) (hs5 : soOK so) {i : Int32} : CfL g (d + 2) yX10_peek cX10_peek 3 [rf g 54, .int (nI t), .int i] M L (pkA (L (tM t)) z i) (M) (L) := by
  have hin : inN (nI t) 6 = true := by rw [inN_nI (by omega)]; exact decide_eq_true ht
  refine cfL_of (own := RX10) (l := [some (rf g 54), some (.int (nI t)), some (.int i)]) 0 rfl rfl rfl (Nat.le_of_ble_eq_true rfl) ?_
  refine tm_iload_1 1 rfl dX10_peek_0 ?_
  refine tm_callS_I (c_X10_isTape) ms_X10_isTape ml_X10_244 rfl rfl (Nat.le_of_ble_eq_true rfl) 4 rfl dX10_peek_1 ?_
  refine tm_if_eq_f 7 ((bI_n0 _).mpr hin) rfl rfl dX10_peek_4 ?_
  refine tm_iload_2 8 rfl dX10_peek_7 ?_
  refine tm_i2l 9 rfl dX10_peek_8 ?_
  refine tm_lconst 0 rfl 10 rfl dX10_peek_9 ?_
  refine tm_aload_0 11 rfl dX10_peek_10 ?_
  refine tm_getr fl_X10_40 rfl rfl 14 rfl dX10_peek_11 ?_
  refine tm_iload_1 15 rfl dX10_peek_14 ?_
  refine tm_ald rfl (ix := t) (ix_nI ht (by decide)) 16 rfl dX10_peek_15 ?_
  rw [hz]
  refine tm_iconst (1) rfl 17 rfl dX10_peek_16 ?_
  refine tm_isub 18 rfl dX10_peek_17 ?_
  refine tm_i2l 19 rfl dX10_peek_18 ?_
  refine tm_callS_I (c_X10_in) ms_X10_in ml_X10_60 rfl rfl (Nat.le_of_ble_eq_true rfl) 22 rfl dX10_peek_19 ?_
  rw [isL_z hz6]
  refine tm_if_eqB 36 25 rfl rfl dX10_peek_22 (fun h22 => ?_) (fun h22 => ?_)
  · refine tm_ldc2 kl_X10_172 39 rfl dX10_peek_36 ?_
    exact tm_lret (by first | exact (pk_1 h22).symm | exact (pk_2 h22 (by omega)).symm) rfl rfl dX10_peek_39
  · obtain ⟨k, hk, rfl⟩ := inN_of h22
    refine tm_aload_0 26 rfl dX10_peek_25 ?_
    refine tm_getr fl_X10_45 rfl rfl 29 rfl dX10_peek_26 ?_
    refine tm_iload_1 30 rfl dX10_peek_29 ?_
    refine tm_aald3 rfl (ix_nI ht (by decide)) (mp_at ht) 31 rfl dX10_peek_30 ?_
    refine tm_iload_2 32 rfl dX10_peek_31 ?_
    refine tm_lald (mpS ht) (ix := k) (ix_nI (by omega) (by decide)) 33 rfl dX10_peek_32 ?_
    refine tm_goto 39 rfl dX10_peek_33 ?_
    exact tm_lret (by first | exact (pk_1 h22).symm | exact (pk_2 h22 (by omega)).symm) rfl rfl dX10_peek_39

def lkP (σ : AS) (f h : Nat → Int32) (k : Nat) : Bool := !inN (f k) (2 ^ σ.1) || decide (¬ bI (σ.2.1.testBit (iN (f k))) = h k)
def ansLook (σ : AS) (f h : Nat → Int32) (s : Nat) : Int32 := if fa_first (lkP σ f h) s < s then nI (fa_first (lkP σ f h) s) else -5
theorem lk_1 {σ : AS} {f h : Nat → Int32} {s k : Nat} (hk : k < s) (h1 : lkP σ f h k = true) (hP : ∀ j, j < k → lkP σ f h j = false) : nI k = ansLook σ f h s := by
  unfold ansLook
  rw [first_eq hk h1 hP, if_pos hk]
theorem lk_2 {σ : AS} {f h : Nat → Int32} {s : Nat} (hP : ∀ j, j < s → lkP σ f h j = false) : (-5 : Int32) = ansLook σ f h s := by
  unfold ansLook
  rw [if_neg (first_no hP)]
theorem lk_3 {σ : AS} {f h : Nat → Int32} {k : Nat} (h1 : inN (f k) (2 ^ σ.1) = false) : lkP σ f h k = true := by unfold lkP; rw [h1]; rfl
theorem lk_4 {σ : AS} {f h : Nat → Int32} {k q : Nat} (e : f k = nI q) (hq : q < 2 ^ 31) (h1 : inN (f k) (2 ^ σ.1) = true) : (bI (σ.2.1.testBit q) = h k → lkP σ f h k = false) ∧ (¬ bI (σ.2.1.testBit q) = h k → lkP σ f h k = true) := by
  unfold lkP
  rw [h1, e, iN_nI hq]
  exact ⟨fun z => by rw [decide_eq_false (fun y => y z)]; rfl, fun z => by rw [decide_eq_true z]; rfl⟩
set_option maxRecDepth 100000 in
set_option maxHeartbeats 4000000 in
theorem c_X9_looked {g : GC} {d : Nat} {M : MI} {L : ML} {σ : AS} (hC : hasC M σ) (hσ : okS σ) {s : Nat} {f h : Nat → Int32} (hs : M 9 2 = nI s) (hsn : s ≤ 8) (hf : ∀ k, k < s → M 10 k = f k ∧ M 11 k = h k) : CfI g (d + 2) yX9_looked cX9_looked 3 .int [rf g 0] M L (ansLook σ f h s) (M) (L) := by
  have hn := hC.1
  have h4 := hσ.2.1
  have h16 := pow4 h4
  have hp1 := Nat.two_pow_pos σ.1
  have hc := okp hσ
  refine cfI_of (own := RX9) (l := [some (rf g 0), none, none]) 2 rfl rfl rfl (Nat.le_of_ble_eq_true rfl) ?_
  refine tm_iconst (0) rfl 1 rfl dX9_looked_0 ?_
  refine tm_istore_1 (by decide) rfl 2 rfl dX9_looked_1 ?_
  refine tm_loopE (N := s) (fun k => ∀ j, j < k → lkP σ f h j = false) (fun k => Tm g (d + 2) RX9 cX9_looked 3 (some .int) (QI g (ansLook σ f h s) (M) (L)) 2 [some (rf g 0), some (.int (nI k)), none] [] (M) (L)) (fun u hu => absurd hu (by omega)) (fun k hk hP ih => ?_) (fun hPN => ?_)
  · refine tm_iload_1 3 rfl dX9_looked_2 ?_
    refine tm_aload_0 4 rfl dX9_looked_3 ?_
    refine tm_getr fl_X9_12 rfl rfl 7 rfl dX9_looked_4 ?_
    refine tm_getr fl_X9_290 rfl rfl 10 rfl dX9_looked_7 ?_
    refine tm_geti fl_X9_262 rfl rfl 13 rfl dX9_looked_10 ?_
    rw [hs]
    refine tm_icmp_ge_f 16 (nI_ge hk (by omega)) rfl rfl dX9_looked_13 ?_
    refine tm_aload_0 17 rfl dX9_looked_16 ?_
    refine tm_getr fl_X9_12 rfl rfl 20 rfl dX9_looked_17 ?_
    refine tm_getr fl_X9_290 rfl rfl 23 rfl dX9_looked_20 ?_
    refine tm_getr fl_X9_265 rfl rfl 26 rfl dX9_looked_23 ?_
    refine tm_iload_1 27 rfl dX9_looked_26 ?_
    refine tm_ald rfl (ix := k) (ix_nI (by omega) (by decide)) 28 rfl dX9_looked_27 ?_
    rw [(hf k hk).1]
    refine tm_istore_2 (by decide) rfl 29 rfl dX9_looked_28 ?_
    refine tm_aload_0 30 rfl dX9_looked_29 ?_
    refine tm_getr fl_X9_12 rfl rfl 33 rfl dX9_looked_30 ?_
    refine tm_iload_2 34 rfl dX9_looked_33 ?_
    refine tm_callV_I (ci := 3) (c_X4_hasLot hC hσ) mv_X4_hasLot ml_X9_75 rfl rfl rfl rfl rfl (Nat.le_of_ble_eq_true rfl) 37 rfl dX9_looked_34 ?_
    refine tm_if_eqB 66 40 rfl rfl dX9_looked_37 (fun h37 => ?_) (fun h37 => ?_)
    · refine tm_iload_1 67 rfl dX9_looked_66 ?_
      exact tm_iret (by first | exact lk_1 hk (lk_3 h37) hP | exact lk_1 hk ((lk_4 eq (by omega) h37).2 h63) hP) rfl rfl dX9_looked_67
    · obtain ⟨q, hq, eq⟩ := inN_of h37
      rw [eq]
      refine tm_aload_0 41 rfl dX9_looked_40 ?_
      refine tm_getr fl_X9_12 rfl rfl 44 rfl dX9_looked_41 ?_
      refine tm_geti fl_X9_82 rfl rfl 47 rfl dX9_looked_44 ?_
      rw [hC.2.1]
      refine tm_iload_2 48 rfl dX9_looked_47 ?_
      refine tm_callS_I (c_X0_says (c := σ.2.1) (k := q) (by omega) (by omega)) ms_X0_says ml_X9_85 rfl rfl (Nat.le_of_ble_eq_true rfl) 51 rfl dX9_looked_48 ?_
      refine tm_aload_0 52 rfl dX9_looked_51 ?_
      refine tm_getr fl_X9_12 rfl rfl 55 rfl dX9_looked_52 ?_
      refine tm_getr fl_X9_290 rfl rfl 58 rfl dX9_looked_55 ?_
      refine tm_getr fl_X9_266 rfl rfl 61 rfl dX9_looked_58 ?_
      refine tm_iload_1 62 rfl dX9_looked_61 ?_
      refine tm_ald rfl (ix := k) (ix_nI (by omega) (by decide)) 63 rfl dX9_looked_62 ?_
      rw [(hf k hk).2]
      refine tm_icmp_eq 68 66 rfl rfl dX9_looked_63 (fun h63 => ?_) (fun h63 => ?_)
      · refine tm_iinc_1 (nI (k + 1)) (iinc1 k) (by decide) rfl 71 rfl dX9_looked_68 ?_
        refine tm_goto 2 rfl dX9_looked_71 ?_
        exact tm_wkr (ih (lt_s1 hP ((lk_4 eq (by omega) h37).1 h63))) (And.intro rfl (And.intro rfl trivial))
      · refine tm_iload_1 67 rfl dX9_looked_66 ?_
        exact tm_iret (by first | exact lk_1 hk (lk_3 h37) hP | exact lk_1 hk ((lk_4 eq (by omega) h37).2 h63) hP) rfl rfl dX9_looked_67
  · refine tm_iload_1 3 rfl dX9_looked_2 ?_
    refine tm_aload_0 4 rfl dX9_looked_3 ?_
    refine tm_getr fl_X9_12 rfl rfl 7 rfl dX9_looked_4 ?_
    refine tm_getr fl_X9_290 rfl rfl 10 rfl dX9_looked_7 ?_
    refine tm_geti fl_X9_262 rfl rfl 13 rfl dX9_looked_10 ?_
    rw [hs]
    refine tm_icmp_ge_t 74 (nI_le (Nat.le_refl _) (by omega)) rfl dX9_looked_13 ?_
    refine tm_bipush (-5) (by decide) 76 rfl dX9_looked_74 ?_
    exact tm_iret (lk_2 hPN) rfl rfl dX9_looked_76

set_option maxRecDepth 100000 in
set_option maxHeartbeats 4000000 in
theorem c_X10_looked {g : GC} {d : Nat} {M : MI} {L : ML} {σ : AS} (hM : hasM M σ) (hσ : okS σ) {s : Nat} {f h : Nat → Int32} (hs : M 55 38 = nI s) (hsn : s ≤ 8) (hf : ∀ k, k < s → M 55 (39 + k) = f k ∧ M 55 (47 + k) = h k) : CfI g (d + 2) yX10_looked cX10_looked 3 .int [rf g 54] M L (ansLook σ f h s) (M) (L) := by
  have hn := hM.1
  have h4 := hσ.2.1
  have h16 := pow4 h4
  have hp1 := Nat.two_pow_pos σ.1
  have hc := okp hσ
  refine cfI_of (own := RX10) (l := [some (rf g 54), none, none]) 2 rfl rfl rfl (Nat.le_of_ble_eq_true rfl) ?_
  refine tm_iconst (0) rfl 1 rfl dX10_looked_0 ?_
  refine tm_istore_1 (by decide) rfl 2 rfl dX10_looked_1 ?_
  refine tm_loopE (N := s) (fun k => ∀ j, j < k → lkP σ f h j = false) (fun k => Tm g (d + 2) RX10 cX10_looked 3 (some .int) (QI g (ansLook σ f h s) (M) (L)) 2 [some (rf g 54), some (.int (nI k)), none] [] (M) (L)) (fun u hu => absurd hu (by omega)) (fun k hk hP ih => ?_) (fun hPN => ?_)
  · refine tm_iload_1 3 rfl dX10_looked_2 ?_
    refine tm_aload_0 4 rfl dX10_looked_3 ?_
    refine tm_getr fl_X10_11 rfl rfl 7 rfl dX10_looked_4 ?_
    refine tm_bipush (38) (by decide) 9 rfl dX10_looked_7 ?_
    refine tm_ald rfl (ix := 38) ⟨by decide, by decide, by decide⟩ 10 rfl dX10_looked_9 ?_
    rw [hs]
    refine tm_icmp_ge_f 13 (nI_ge hk (by omega)) rfl rfl dX10_looked_10 ?_
    refine tm_aload_0 14 rfl dX10_looked_13 ?_
    refine tm_getr fl_X10_11 rfl rfl 17 rfl dX10_looked_14 ?_
    refine tm_bipush (39) (by decide) 19 rfl dX10_looked_17 ?_
    refine tm_iload_1 20 rfl dX10_looked_19 ?_
    refine tm_iadd 21 rfl dX10_looked_20 ?_
    rw [show (39 : Int32) = nI 39 from rfl, nI_add]
    refine tm_ald rfl (ix := 39 + k) (ix_nI (by omega) (by decide)) 22 rfl dX10_looked_21 ?_
    rw [(hf k hk).1]
    refine tm_istore_2 (by decide) rfl 23 rfl dX10_looked_22 ?_
    refine tm_aload_0 24 rfl dX10_looked_23 ?_
    refine tm_iload_2 25 rfl dX10_looked_24 ?_
    refine tm_callV_I (ci := 9) (c_X10_isLot hn h4) mv_X10_isLot ml_X10_68 rfl rfl rfl rfl rfl (Nat.le_of_ble_eq_true rfl) 28 rfl dX10_looked_25 ?_
    refine tm_if_eqB 56 31 rfl rfl dX10_looked_28 (fun h28 => ?_) (fun h28 => ?_)
    · refine tm_iload_1 57 rfl dX10_looked_56 ?_
      exact tm_iret (by first | exact lk_1 hk (lk_3 h28) hP | exact lk_1 hk ((lk_4 eq (by omega) h28).2 h53) hP) rfl rfl dX10_looked_57
    · obtain ⟨q, hq, eq⟩ := inN_of h28
      rw [eq]
      refine tm_aload_0 32 rfl dX10_looked_31 ?_
      refine tm_getr fl_X10_11 rfl rfl 35 rfl dX10_looked_32 ?_
      refine tm_iconst (1) rfl 36 rfl dX10_looked_35 ?_
      refine tm_ald rfl (ix := 1) ⟨by decide, by decide, by decide⟩ 37 rfl dX10_looked_36 ?_
      rw [hM.2.1]
      refine tm_iload_2 38 rfl dX10_looked_37 ?_
      refine tm_callS_I (c_X10_is (c := σ.2.1) (k := q) (by omega) (by omega)) ms_X10_is ml_X10_97 rfl rfl (Nat.le_of_ble_eq_true rfl) 41 rfl dX10_looked_38 ?_
      refine tm_callS_I (c_X10_bit) ms_X10_bit ml_X10_90 rfl rfl (Nat.le_of_ble_eq_true rfl) 44 rfl dX10_looked_41 ?_
      refine tm_aload_0 45 rfl dX10_looked_44 ?_
      refine tm_getr fl_X10_11 rfl rfl 48 rfl dX10_looked_45 ?_
      refine tm_bipush (47) (by decide) 50 rfl dX10_looked_48 ?_
      refine tm_iload_1 51 rfl dX10_looked_50 ?_
      refine tm_iadd 52 rfl dX10_looked_51 ?_
      rw [show (47 : Int32) = nI 47 from rfl, nI_add]
      refine tm_ald rfl (ix := 47 + k) (ix_nI (by omega) (by decide)) 53 rfl dX10_looked_52 ?_
      rw [(hf k hk).2]
      refine tm_icmp_eq 58 56 rfl rfl dX10_looked_53 (fun h53 => ?_) (fun h53 => ?_)
      · refine tm_iinc_1 (nI (k + 1)) (iinc1 k) (by decide) rfl 61 rfl dX10_looked_58 ?_
        refine tm_goto 2 rfl dX10_looked_61 ?_
        exact tm_wkr (ih (lt_s1 hP ((lk_4 eq (by omega) h28).1 h53))) (And.intro rfl (And.intro rfl trivial))
      · refine tm_iload_1 57 rfl dX10_looked_56 ?_
        exact tm_iret (by first | exact lk_1 hk (lk_3 h28) hP | exact lk_1 hk ((lk_4 eq (by omega) h28).2 h53) hP) rfl rfl dX10_looked_57
  · refine tm_iload_1 3 rfl dX10_looked_2 ?_
    refine tm_aload_0 4 rfl dX10_looked_3 ?_
    refine tm_getr fl_X10_11 rfl rfl 7 rfl dX10_looked_4 ?_
    refine tm_bipush (38) (by decide) 9 rfl dX10_looked_7 ?_
    refine tm_ald rfl (ix := 38) ⟨by decide, by decide, by decide⟩ 10 rfl dX10_looked_9 ?_
    rw [hs]
    refine tm_icmp_ge_t 64 (nI_le (Nat.le_refl _) (by omega)) rfl dX10_looked_10 ?_
    refine tm_bipush (-5) (by decide) 66 rfl dX10_looked_64 ?_
    exact tm_iret (lk_2 hPN) rfl rfl dX10_looked_66


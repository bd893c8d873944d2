/-! moved, reached, steps -/
theorem mul2 {n : Nat} (h : 1 ≤ n) : 2 * nI n - 1 = nI (2 * n - 1) := by rw [show (2 : Int32) = nI 2 from rfl, pk_mul, show (1 : Int32) = nI 1 from rfl, pk_sub (by omega)]
theorem mvI_1 {n c m : Nat} (h : ¬ nI n ≤ nI m) (hm : m ≤ 100) (hn : n ≤ 4) : m < n := by
  rw [fa_le, nI_toInt (by omega), nI_toInt (by omega)] at h
  omega
theorem nI_nle_lt {a b : Nat} (h : ¬ nI b ≤ nI a) (ha : a < 2 ^ 31) (hb : b < 2 ^ 31) : a < b := by
  rw [fa_le, nI_toInt ha, nI_toInt hb] at h
  omega
theorem nI_le_le {a b : Nat} (h : nI b ≤ nI a) (ha : a < 2 ^ 31) (hb : b < 2 ^ 31) : b ≤ a := by
  rw [fa_le, nI_toInt ha, nI_toInt hb] at h
  omega
set_option maxRecDepth 100000 in
set_option maxHeartbeats 4000000 in
theorem c_X10_moved {g : GC} {d : Nat} {M : MI} {L : ML} {n : Nat} (hn : M 55 0 = nI n) (h4 : n ≤ 4) (h2 : 2 ≤ n) {c m : Nat} (hc : c < 2 ^ 2 ^ n) (hm : m ≤ 2 * n) : CfI g (d + 2) yX10_moved cX10_moved 4 .int [rf g 54, .int (nI c), .int (nI m)] M L (nI (mvN n c m)) (M) (L) := by
  have h65 := p65 h4
  refine cfI_of (own := RX10) (l := [some (rf g 54), some (.int (nI c)), some (.int (nI m)), none]) 1 rfl rfl rfl (Nat.le_of_ble_eq_true rfl) ?_
  refine tm_aload_0 1 rfl dX10_moved_0 ?_
  refine tm_getr fl_X10_11 rfl rfl 4 rfl dX10_moved_1 ?_
  refine tm_iconst (0) rfl 5 rfl dX10_moved_4 ?_
  refine tm_ald rfl (ix := 0) ⟨by decide, by decide, by decide⟩ 6 rfl dX10_moved_5 ?_
  rw [hn]
  refine tm_istore_3 (by decide) rfl 7 rfl dX10_moved_6 ?_
  refine tm_iload_2 8 rfl dX10_moved_7 ?_
  refine tm_iload_3 9 rfl dX10_moved_8 ?_
  refine tm_icmp_ge 21 12 rfl rfl dX10_moved_9 (fun h9 => ?_) (fun h9 => ?_)
  · have hmn := nI_le_le h9 (by omega) (by omega)
    refine tm_iload_2 22 rfl dX10_moved_21 ?_
    refine tm_iconst (2) rfl 23 rfl dX10_moved_22 ?_
    refine tm_iload_3 24 rfl dX10_moved_23 ?_
    refine tm_imul 25 rfl dX10_moved_24 ?_
    refine tm_iconst (1) rfl 26 rfl dX10_moved_25 ?_
    refine tm_isub 27 rfl dX10_moved_26 ?_
    rw [mul2 (by omega)]
    refine tm_icmp_ge 46 30 rfl rfl dX10_moved_27 (fun h27 => ?_) (fun h27 => ?_)
    · have hm2 := nI_le_le h27 (by omega) (by omega)
      refine tm_iload_2 47 rfl dX10_moved_46 ?_
      refine tm_iconst (2) rfl 48 rfl dX10_moved_47 ?_
      refine tm_iload_3 49 rfl dX10_moved_48 ?_
      refine tm_imul 50 rfl dX10_moved_49 ?_
      refine tm_iconst (1) rfl 51 rfl dX10_moved_50 ?_
      refine tm_isub 52 rfl dX10_moved_51 ?_
      rw [mul2 (by omega)]
      refine tm_icmp_ne 63 55 rfl rfl dX10_moved_52 (fun h52 => ?_) (fun h52 => ?_)
      · have hm3 : ¬ m = 2 * n - 1 := fun z => h52 (by rw [z])
        refine tm_aload_0 64 rfl dX10_moved_63 ?_
        refine tm_callV_I (ci := 9) (c_X10_most hn h4) mv_X10_most ml_X10_72 rfl rfl rfl rfl rfl (Nat.le_of_ble_eq_true rfl) 67 rfl dX10_moved_64 ?_
        refine tm_iload_1 68 rfl dX10_moved_67 ?_
        refine tm_iconst (-1) rfl 69 rfl dX10_moved_68 ?_
        refine tm_ixor 70 rfl dX10_moved_69 ?_
        refine tm_iand 71 rfl dX10_moved_70 ?_
        exact tm_iret (by first | rw [mv_t hmn] | rw [mv_c (by omega)] | rw [hm3, mv_d h2] | rw [opp_m h4 hc, show m = 2 * n by omega, mv_o h2]) rfl rfl dX10_moved_71
      · have hm3 := (nI_eq (by omega) (by omega)).mp h52
        refine tm_aload_0 56 rfl dX10_moved_55 ?_
        refine tm_iload_1 57 rfl dX10_moved_56 ?_
        refine tm_callV_I (ci := 9) (c_X10_dual hn h4 (by omega)) mv_X10_dual ml_X10_107 rfl rfl rfl rfl rfl (Nat.le_of_ble_eq_true rfl) 60 rfl dX10_moved_57 ?_
        refine tm_goto 71 rfl dX10_moved_60 ?_
        exact tm_iret (by first | rw [mv_t hmn] | rw [mv_c (by omega)] | rw [hm3, mv_d h2] | rw [opp_m h4 hc, show m = 2 * n by omega, mv_o h2]) rfl rfl dX10_moved_71
    · have hm2 := nI_nle_lt h27 (by omega) (by omega)
      obtain ⟨i, rfl⟩ : ∃ i, m = n + i := ⟨m - n, by omega⟩
      refine tm_aload_0 31 rfl dX10_moved_30 ?_
      refine tm_iload_1 32 rfl dX10_moved_31 ?_
      refine tm_iload_2 33 rfl dX10_moved_32 ?_
      refine tm_iload_3 34 rfl dX10_moved_33 ?_
      refine tm_isub 35 rfl dX10_moved_34 ?_
      rw [pk_sub (by omega), show n + i - n = i by omega]
      refine tm_iload_2 36 rfl dX10_moved_35 ?_
      refine tm_iload_3 37 rfl dX10_moved_36 ?_
      refine tm_isub 38 rfl dX10_moved_37 ?_
      rw [pk_sub (by omega), show n + i - n = i by omega]
      refine tm_iconst (1) rfl 39 rfl dX10_moved_38 ?_
      refine tm_iadd 40 rfl dX10_moved_39 ?_
      rw [nI_1]
      refine tm_callV_I (ci := 9) (c_X10_changed hn h4 (i := i) (j := i + 1) (by omega) (by omega) (by omega)) mv_X10_changed ml_X10_114 rfl rfl rfl rfl rfl (Nat.le_of_ble_eq_true rfl) 43 rfl dX10_moved_40 ?_
      refine tm_goto 71 rfl dX10_moved_43 ?_
      exact tm_iret (by first | rw [mv_t hmn] | rw [mv_c (by omega)] | rw [hm3, mv_d h2] | rw [opp_m h4 hc, show m = 2 * n by omega, mv_o h2]) rfl rfl dX10_moved_71
  · have hmn := nI_nle_lt h9 (by omega) (by omega)
    refine tm_aload_0 13 rfl dX10_moved_12 ?_
    refine tm_iload_1 14 rfl dX10_moved_13 ?_
    refine tm_iload_2 15 rfl dX10_moved_14 ?_
    refine tm_callV_I (ci := 9) (c_X10_turned hn h4 (by omega) hmn) mv_X10_turned ml_X10_110 rfl rfl rfl rfl rfl (Nat.le_of_ble_eq_true rfl) 18 rfl dX10_moved_15 ?_
    refine tm_goto 71 rfl dX10_moved_18 ?_
    exact tm_iret (by first | rw [mv_t hmn] | rw [mv_c (by omega)] | rw [hm3, mv_d h2] | rw [opp_m h4 hc, show m = 2 * n by omega, mv_o h2]) rfl rfl dX10_moved_71

def awM (M : MI) (k : Nat) : MI := sr M 59 (fun e => if e < k then -5 else M 59 e)
theorem awM_0 (M : MI) : awM M 0 = M := by
  unfold awM
  have e : (fun e => if e < 0 then (-5 : Int32) else M 59 e) = M 59 := by funext k; simp
  rw [e, sr_self]
theorem awM_s (M : MI) (k : Nat) : s1 (awM M k) 59 k (-5) = awM M (k + 1) := by
  funext i
  by_cases h : i = 59
  · subst h
    funext u
    rw [s1_at]
    unfold awM
    rw [sr_eq, sr_eq]
    by_cases q : u = k
    · subst q; simp
    · by_cases q2 : u < k
      · simp [q, q2, show u < k + 1 by omega]
      · simp [q, q2, show ¬ u < k + 1 by omega]
  · rw [s1_ne h]; unfold awM; rw [sr_ne h, sr_ne h]
theorem awM_ne {M : MI} {k i : Nat} (h : i ≠ 59) : awM M k i = M i := sr_ne h
theorem awM_59 {M : MI} {k e : Nat} (h : e < k) : awM M k 59 e = -5 := by unfold awM; rw [sr_eq]; exact if_pos h
def frW (M M' : MI) : Prop := ∀ i, i ≠ 59 → i ≠ 60 → M' i = M i
def reR (n : Nat) (M M' : MI) (q : BQ) : Prop := (∀ e, e < 2 ^ 2 ^ n → M' 59 e = ansSt q e) ∧ (∀ i, i < q.1 → M' 60 i = nI (q.2.1 i)) ∧ frW M M'
theorem re_0 {n c : Nat} {M : MI} (hc : c < 2 ^ 2 ^ n) : reR n M (s1 (s1 (awM M (2 ^ 2 ^ n)) 59 c 0) 60 0 (nI c)) (bfQ n c 0) := by
  refine ⟨fun e he => ?_, fun i hi => ?_, fun i h1 h2 => by rw [s1_ne h2, s1_ne h1, awM_ne h1]⟩
  · rw [s1_ne (by decide)]
    by_cases q : e = c
    · subst q
      rw [s1_eq]
      exact (st_at (q := bfQ n e 0) (i := 0) (show 0 < 1 by decide) rfl (fun j hj => absurd hj (by omega))).symm
    · rw [s1_nk q, awM_59 he]
      symm
      apply sq_no
      cases m : memB (bfQ n c 0) e
      · rfl
      · obtain ⟨i, _, h2⟩ := mem_iff.mp m
        exact absurd h2 (fun z => q z.symm)
  · have hi' : i < 1 := hi
    have : i = 0 := by omega
    subst this
    exact s1_eq _ _ _ _
theorem re_new {n c : Nat} {M M' : MI} {q : BQ} {e st : Nat} (h : reR n M M' q) (hq : qOK n c q) (he : Fam n c e) (hs : st ≤ q.1) (hm : memB q e = false) {x : Int32} (hx : x = nI st) : reR n M (s1 (s1 M' 59 e x) 60 q.1 (nI e)) (mtQ q e st) := by
  subst hx
  refine ⟨fun u hu => ?_, fun i hi => ?_, fun i h1 h2 => by rw [s1_ne h2, s1_ne h1]; exact h.2.2 i h1 h2⟩
  · rw [s1_ne (by decide), st_mt hq he hs hm]
    by_cases d : u = e
    · subst d; rw [s1_eq, if_pos rfl]
    · rw [s1_nk d, if_neg d]; exact h.1 u hu
  · rw [mt_n hm] at hi ⊢
    have hi' : i < q.1 + 1 := hi
    show _ = nI (uN q.2.1 q.1 e i)
    by_cases d : i = q.1
    · subst d; rw [s1_eq, uN_eq]
    · rw [s1_nk d, uN_ne d, s1_ne (by decide)]; exact h.2.1 i (by omega)
set_option maxRecDepth 100000 in
set_option maxHeartbeats 4000000 in
theorem c_X10_reached {g : GC} {d : Nat} {M : MI} {L : ML} {σ : AS} (hM : hasM M σ) (hσ : okS σ) : CrI g (d + 3) yX10_reached cX10_reached 5 .int [rf g 54] M L (fun r M' L' => L' = L ∧ r = nI (orbF σ.1 σ.2.1).1 ∧ (∀ e, e < 2 ^ 2 ^ σ.1 → M' 59 e = ansSt (orbF σ.1 σ.2.1) e) ∧ frW M M') := by
  have hn := hM.1
  have h4 := hσ.2.1
  have h16 := pow4 h4
  have hp1 := Nat.two_pow_pos σ.1
  have hc := okp hσ
  have h65 := p65 h4
  have hpp := Nat.two_pow_pos (2 ^ σ.1)
  refine crI_of (own := RX10) (l := [some (rf g 54), none, none, none, none]) 4 rfl rfl rfl (Nat.le_of_ble_eq_true rfl) ?_
  refine tm_iconst (0) rfl 1 rfl dX10_reached_0 ?_
  refine tm_istore_1 (by decide) rfl 2 rfl dX10_reached_1 ?_
  refine tm_mem (awM_0 M) rfl ?_
  refine tm_loop (N := 2 ^ 2 ^ σ.1) (fun k => Tm g (d + 3) RX10 cX10_reached 5 (some .int) (QIr g (fun r M' L' => L' = L ∧ r = nI (orbF σ.1 σ.2.1).1 ∧ (∀ e, e < 2 ^ 2 ^ σ.1 → M' 59 e = ansSt (orbF σ.1 σ.2.1) e) ∧ frW M M')) 2 [some (rf g 54), some (.int (nI k)), none, none, none] [] (awM M k) (L)) (fun k hk ih => ?_) ?_
  · refine tm_iload_1 3 rfl dX10_reached_2 ?_
    refine tm_aload_0 4 rfl dX10_reached_3 ?_
    refine tm_callV_I (ci := 9) (c_X10_most (by rw [awM_ne (by decide)]; exact hn) h4) mv_X10_most ml_X10_72 rfl rfl rfl rfl rfl (Nat.le_of_ble_eq_true rfl) 7 rfl dX10_reached_4 ?_
    refine tm_icmp_gt_f 10 (fun q => by rw [fa_lt, nI_toInt (by omega), nI_toInt (by omega)] at q; omega) rfl rfl dX10_reached_7 ?_
    refine tm_aload_0 11 rfl dX10_reached_10 ?_
    refine tm_getr fl_X10_25 rfl rfl 14 rfl dX10_reached_11 ?_
    refine tm_iload_1 15 rfl dX10_reached_14 ?_
    refine tm_bipush (-5) (by decide) 17 rfl dX10_reached_15 ?_
    refine tm_ast rfl (ix := k) (ix_nI (by omega) (by decide)) 18 rfl dX10_reached_17 ?_
    refine tm_iinc_1 (nI (k + 1)) (iinc1 k) (by decide) rfl 21 rfl dX10_reached_18 ?_
    refine tm_goto 2 rfl dX10_reached_21 ?_
    rw [awM_s]
    exact ih
  · refine tm_iload_1 3 rfl dX10_reached_2 ?_
    refine tm_aload_0 4 rfl dX10_reached_3 ?_
    refine tm_callV_I (ci := 9) (c_X10_most (by rw [awM_ne (by decide)]; exact hn) h4) mv_X10_most ml_X10_72 rfl rfl rfl rfl rfl (Nat.le_of_ble_eq_true rfl) 7 rfl dX10_reached_4 ?_
    refine tm_icmp_gt_t 24 (by rw [fa_lt, nI_toInt (by omega), nI_toInt (by omega)]; omega) rfl dX10_reached_7 ?_
    refine tm_aload_0 25 rfl dX10_reached_24 ?_
    refine tm_getr fl_X10_25 rfl rfl 28 rfl dX10_reached_25 ?_
    refine tm_aload_0 29 rfl dX10_reached_28 ?_
    refine tm_getr fl_X10_11 rfl rfl 32 rfl dX10_reached_29 ?_
    refine tm_iconst (1) rfl 33 rfl dX10_reached_32 ?_
    refine tm_ald rfl (ix := 1) ⟨by decide, by decide, by decide⟩ 34 rfl dX10_reached_33 ?_
    rw [awM_ne (by decide), hM.2.1]
    refine tm_iconst (0) rfl 35 rfl dX10_reached_34 ?_
    refine tm_ast rfl (ix := σ.2.1) (ix_nI (by omega) (by decide)) 36 rfl dX10_reached_35 ?_
    refine tm_aload_0 37 rfl dX10_reached_36 ?_
    refine tm_getr fl_X10_28 rfl rfl 40 rfl dX10_reached_37 ?_
    refine tm_iconst (0) rfl 41 rfl dX10_reached_40 ?_
    refine tm_aload_0 42 rfl dX10_reached_41 ?_
    refine tm_getr fl_X10_11 rfl rfl 45 rfl dX10_reached_42 ?_
    refine tm_iconst (1) rfl 46 rfl dX10_reached_45 ?_
    refine tm_ald rfl (ix := 1) ⟨by decide, by decide, by decide⟩ 47 rfl dX10_reached_46 ?_
    rw [s1_ne (by decide), awM_ne (by decide), hM.2.1]
    refine tm_ast rfl (ix := 0) ⟨by decide, by decide, by decide⟩ 48 rfl dX10_reached_47 ?_
    refine tm_iconst (1) rfl 49 rfl dX10_reached_48 ?_
    refine tm_istore_1 (by decide) rfl 50 rfl dX10_reached_49 ?_
    refine tm_iconst (0) rfl 51 rfl dX10_reached_50 ?_
    refine tm_istore_2 (by decide) rfl 52 rfl dX10_reached_51 ?_
    refine (tm_loop (N := 768) (fun k => ∀ (Mx : MI), (reR σ.1 M Mx (bfQ σ.1 σ.2.1 k)) → Tm g (d + 3) RX10 cX10_reached 5 (some .int) (QIr g (fun r M' L' => L' = L ∧ r = nI (orbF σ.1 σ.2.1).1 ∧ (∀ e, e < 2 ^ 2 ^ σ.1 → M' 59 e = ansSt (orbF σ.1 σ.2.1) e) ∧ frW M M')) 52 [some (rf g 54), some (.int (nI (bfQ σ.1 σ.2.1 k).1)), some (.int (nI k)), none, none] [] Mx (L)) (fun k hk ih Mx hI => ?_) (fun Mx hI => ?_)) _ ?_
    · have hqk := bf_ok h4 hσ.2.2.1 k
      have hq7 := q_768 hqk
      refine tm_iload_2 53 rfl dX10_reached_52 ?_
      refine tm_iload_1 54 rfl dX10_reached_53 ?_
      refine tm_icmp_ge 139 57 rfl rfl dX10_reached_54 (fun h54 => ?_) (fun h54 => ?_)
      · refine tm_iload_1 140 rfl dX10_reached_139 ?_
        exact tm_iretR (by first | (have z : nI (bfQ σ.1 σ.2.1 k).1 ≤ nI k := h54; have e : (bfQ σ.1 σ.2.1 k) = orbF σ.1 σ.2.1 := bf_end (by have := nI_le_le z (by omega) (by omega); omega) (by omega); exact ⟨rfl, by rw [e], fun u hu => by rw [← e]; exact hI.1 u hu, hI.2.2⟩) | exact ⟨rfl, rfl, hI.1, hI.2.2⟩) dX10_reached_140
      · have hks : k < (bfQ σ.1 σ.2.1 k).1 := nI_nle_lt h54 (by omega) (by omega)
        refine tm_iconst (0) rfl 58 rfl dX10_reached_57 ?_
        refine tm_istore_3 (by decide) rfl 59 rfl dX10_reached_58 ?_
        refine (tm_loop (N := 2 * σ.1 + 1) (fun m => ∀ (My : MI), (reR σ.1 M My (besQ σ.1 ((bfQ σ.1 σ.2.1 k).2.1 k) ((bfQ σ.1 σ.2.1 k).2.2 k + 1) (bfQ σ.1 σ.2.1 k) m)) → Tm g (d + 3) RX10 cX10_reached 5 (some .int) (QIr g (fun r M' L' => L' = L ∧ r = nI (orbF σ.1 σ.2.1).1 ∧ (∀ e, e < 2 ^ 2 ^ σ.1 → M' 59 e = ansSt (orbF σ.1 σ.2.1) e) ∧ frW M M')) 59 [some (rf g 54), some (.int (nI (besQ σ.1 ((bfQ σ.1 σ.2.1 k).2.1 k) ((bfQ σ.1 σ.2.1 k).2.2 k + 1) (bfQ σ.1 σ.2.1 k) m).1)), some (.int (nI k)), some (.int (nI m)), none] [] My (L)) (fun m hm ihm My hJ => ?_) (fun My hJ => ?_)) Mx ?_
        · have hbm := bes_ok h4 hqk (hqk.2.1 k hks) (show (bfQ σ.1 σ.2.1 k).2.2 k + 1 ≤ (bfQ σ.1 σ.2.1 k).1 by have := hqk.2.2.2 k hks; omega) m
          have hb7 := q_768 hbm.1
          have hkb := hbm.2.2 k hks
          have hkl : k < (besQ σ.1 ((bfQ σ.1 σ.2.1 k).2.1 k) ((bfQ σ.1 σ.2.1 k).2.2 k + 1) (bfQ σ.1 σ.2.1 k) m).1 := by have := hbm.2.1; omega
          have hfa := fam_m h4 (hqk.2.1 k hks) m
          have hfl := fam_lt hfa
          have hek := fam_lt (hqk.2.1 k hks)
          have hsk := st_ok hbm.1 hkl
          rw [hkb.1, hkb.2] at hsk
          refine tm_iload_3 60 rfl dX10_reached_59 ?_
          refine tm_iconst (2) rfl 61 rfl dX10_reached_60 ?_
          refine tm_aload_0 62 rfl dX10_reached_61 ?_
          refine tm_getr fl_X10_11 rfl rfl 65 rfl dX10_reached_62 ?_
          refine tm_iconst (0) rfl 66 rfl dX10_reached_65 ?_
          refine tm_ald rfl (ix := 0) ⟨by decide, by decide, by decide⟩ 67 rfl dX10_reached_66 ?_
          rw [hJ.2.2 55 (by decide) (by decide), hn, show (2 : Int32) = nI 2 from rfl]
          refine tm_imul 68 rfl dX10_reached_67 ?_
          rw [pk_mul]
          refine tm_icmp_gt_f 71 (fun q => by rw [fa_lt, nI_toInt (by omega), nI_toInt (by omega)] at q; omega) rfl rfl dX10_reached_68 ?_
          refine tm_aload_0 72 rfl dX10_reached_71 ?_
          refine tm_aload_0 73 rfl dX10_reached_72 ?_
          refine tm_getr fl_X10_28 rfl rfl 76 rfl dX10_reached_73 ?_
          refine tm_iload_2 77 rfl dX10_reached_76 ?_
          refine tm_ald rfl (ix := k) (ix_nI (by omega) (by decide)) 78 rfl dX10_reached_77 ?_
          rw [hJ.2.1 k hkl, hkb.1]
          refine tm_iload_3 79 rfl dX10_reached_78 ?_
          refine tm_callV_I (ci := 9) (c_X10_moved (n := σ.1) (by rw [hJ.2.2 55 (by decide) (by decide)]; exact hn) h4 hσ.1 (c := (bfQ σ.1 σ.2.1 k).2.1 k) (m := m) hek (by omega)) mv_X10_moved ml_X10_142 rfl rfl rfl rfl rfl (Nat.le_of_ble_eq_true rfl) 82 rfl dX10_reached_79 ?_
          refine tm_istore_4 (by decide) rfl 84 rfl dX10_reached_82 ?_
          refine tm_aload_0 85 rfl dX10_reached_84 ?_
          refine tm_getr fl_X10_25 rfl rfl 88 rfl dX10_reached_85 ?_
          refine tm_iload_4 90 rfl dX10_reached_88 ?_
          refine tm_ald rfl (ix_nI (show mvN σ.1 ((bfQ σ.1 σ.2.1 k).2.1 k) m < 65536 by omega) (by decide)) 91 rfl dX10_reached_90 ?_
          rw [hJ.1 _ hfl]
          refine tm_bipush (-5) (by decide) 93 rfl dX10_reached_91 ?_
          refine tm_icmp_ne 127 96 rfl rfl dX10_reached_93 (fun h93 => ?_) (fun h93 => ?_)
          · refine tm_iinc_3 (nI (m + 1)) (iinc1 m) (by decide) rfl 130 rfl dX10_reached_127 ?_
            refine tm_goto 59 rfl dX10_reached_130 ?_
            first
              | (have z : ansSt (besQ σ.1 ((bfQ σ.1 σ.2.1 k).2.1 k) ((bfQ σ.1 σ.2.1 k).2.2 k + 1) (bfQ σ.1 σ.2.1 k) m) (mvN σ.1 ((bfQ σ.1 σ.2.1 k).2.1 k) m) = -5 := h93
                 have zm := (st_5 hbm.1).mp z
                 have e1 : (besQ σ.1 ((bfQ σ.1 σ.2.1 k).2.1 k) ((bfQ σ.1 σ.2.1 k).2.2 k + 1) (bfQ σ.1 σ.2.1 k) m).1 + 1 = (besQ σ.1 ((bfQ σ.1 σ.2.1 k).2.1 k) ((bfQ σ.1 σ.2.1 k).2.2 k + 1) (bfQ σ.1 σ.2.1 k) (m + 1)).1 := by rw [show besQ σ.1 ((bfQ σ.1 σ.2.1 k).2.1 k) ((bfQ σ.1 σ.2.1 k).2.2 k + 1) (bfQ σ.1 σ.2.1 k) (m + 1) = mtQ (besQ σ.1 ((bfQ σ.1 σ.2.1 k).2.1 k) ((bfQ σ.1 σ.2.1 k).2.2 k + 1) (bfQ σ.1 σ.2.1 k) m) (mvN σ.1 ((bfQ σ.1 σ.2.1 k).2.1 k) m) ((bfQ σ.1 σ.2.1 k).2.2 k + 1) from rfl, mt_n zm]
                 rw [e1]
                 exact tm_wkr (ihm _ (re_new hJ hbm.1 hfa (by have := hqk.2.2.2 k hks; omega) zm (by rw [nI_1]))) (And.intro rfl (And.intro rfl (And.intro rfl (And.intro rfl trivial)))))
              | (have z : ¬ ansSt (besQ σ.1 ((bfQ σ.1 σ.2.1 k).2.1 k) ((bfQ σ.1 σ.2.1 k).2.2 k + 1) (bfQ σ.1 σ.2.1 k) m) (mvN σ.1 ((bfQ σ.1 σ.2.1 k).2.1 k) m) = -5 := h93
                 have zm : memB (besQ σ.1 ((bfQ σ.1 σ.2.1 k).2.1 k) ((bfQ σ.1 σ.2.1 k).2.2 k + 1) (bfQ σ.1 σ.2.1 k) m) (mvN σ.1 ((bfQ σ.1 σ.2.1 k).2.1 k) m) = true := by
                   cases y : memB (besQ σ.1 ((bfQ σ.1 σ.2.1 k).2.1 k) ((bfQ σ.1 σ.2.1 k).2.2 k + 1) (bfQ σ.1 σ.2.1 k) m) (mvN σ.1 ((bfQ σ.1 σ.2.1 k).2.1 k) m)
                   · exact absurd (sq_no y) z
                   · rfl
                 have e1 : (besQ σ.1 ((bfQ σ.1 σ.2.1 k).2.1 k) ((bfQ σ.1 σ.2.1 k).2.2 k + 1) (bfQ σ.1 σ.2.1 k) m) = besQ σ.1 ((bfQ σ.1 σ.2.1 k).2.1 k) ((bfQ σ.1 σ.2.1 k).2.2 k + 1) (bfQ σ.1 σ.2.1 k) (m + 1) := (mt_y zm).symm
                 rw [e1] at hJ ⊢
                 exact tm_wkr (ihm _ hJ) (And.intro rfl (And.intro rfl (And.intro rfl (And.intro rfl trivial)))))
          · refine tm_aload_0 97 rfl dX10_reached_96 ?_
            refine tm_getr fl_X10_25 rfl rfl 100 rfl dX10_reached_97 ?_
            refine tm_iload_4 102 rfl dX10_reached_100 ?_
            refine tm_aload_0 103 rfl dX10_reached_102 ?_
            refine tm_getr fl_X10_25 rfl rfl 106 rfl dX10_reached_103 ?_
            refine tm_aload_0 107 rfl dX10_reached_106 ?_
            refine tm_getr fl_X10_28 rfl rfl 110 rfl dX10_reached_107 ?_
            refine tm_iload_2 111 rfl dX10_reached_110 ?_
            refine tm_ald rfl (ix := k) (ix_nI (by omega) (by decide)) 112 rfl dX10_reached_111 ?_
            rw [hJ.2.1 k hkl, hkb.1]
            refine tm_ald rfl (ix_nI (show (bfQ σ.1 σ.2.1 k).2.1 k < 65536 by omega) (by decide)) 113 rfl dX10_reached_112 ?_
            rw [hJ.1 _ hek, hsk]
            refine tm_iconst (1) rfl 114 rfl dX10_reached_113 ?_
            refine tm_iadd 115 rfl dX10_reached_114 ?_
            refine tm_ast rfl (ix_nI (show mvN σ.1 ((bfQ σ.1 σ.2.1 k).2.1 k) m < 65536 by omega) (by decide)) 116 rfl dX10_reached_115 ?_
            refine tm_aload_0 117 rfl dX10_reached_116 ?_
            refine tm_getr fl_X10_28 rfl rfl 120 rfl dX10_reached_117 ?_
            refine tm_iload_1 121 rfl dX10_reached_120 ?_
            refine tm_iload_4 123 rfl dX10_reached_121 ?_
            refine tm_ast rfl (ix_nI (show (besQ σ.1 ((bfQ σ.1 σ.2.1 k).2.1 k) ((bfQ σ.1 σ.2.1 k).2.2 k + 1) (bfQ σ.1 σ.2.1 k) m).1 < 65536 by omega) (by decide)) 124 rfl dX10_reached_123 ?_
            refine tm_iinc_1 (nI ((besQ σ.1 ((bfQ σ.1 σ.2.1 k).2.1 k) ((bfQ σ.1 σ.2.1 k).2.2 k + 1) (bfQ σ.1 σ.2.1 k) m).1 + 1)) (iinc1 _) (by decide) rfl 127 rfl dX10_reached_124 ?_
            refine tm_iinc_3 (nI (m + 1)) (iinc1 m) (by decide) rfl 130 rfl dX10_reached_127 ?_
            refine tm_goto 59 rfl dX10_reached_130 ?_
            first
              | (have z : ansSt (besQ σ.1 ((bfQ σ.1 σ.2.1 k).2.1 k) ((bfQ σ.1 σ.2.1 k).2.2 k + 1) (bfQ σ.1 σ.2.1 k) m) (mvN σ.1 ((bfQ σ.1 σ.2.1 k).2.1 k) m) = -5 := h93
                 have zm := (st_5 hbm.1).mp z
                 have e1 : (besQ σ.1 ((bfQ σ.1 σ.2.1 k).2.1 k) ((bfQ σ.1 σ.2.1 k).2.2 k + 1) (bfQ σ.1 σ.2.1 k) m).1 + 1 = (besQ σ.1 ((bfQ σ.1 σ.2.1 k).2.1 k) ((bfQ σ.1 σ.2.1 k).2.2 k + 1) (bfQ σ.1 σ.2.1 k) (m + 1)).1 := by rw [show besQ σ.1 ((bfQ σ.1 σ.2.1 k).2.1 k) ((bfQ σ.1 σ.2.1 k).2.2 k + 1) (bfQ σ.1 σ.2.1 k) (m + 1) = mtQ (besQ σ.1 ((bfQ σ.1 σ.2.1 k).2.1 k) ((bfQ σ.1 σ.2.1 k).2.2 k + 1) (bfQ σ.1 σ.2.1 k) m) (mvN σ.1 ((bfQ σ.1 σ.2.1 k).2.1 k) m) ((bfQ σ.1 σ.2.1 k).2.2 k + 1) from rfl, mt_n zm]
                 rw [e1]
                 exact tm_wkr (ihm _ (re_new hJ hbm.1 hfa (by have := hqk.2.2.2 k hks; omega) zm (by rw [nI_1]))) (And.intro rfl (And.intro rfl (And.intro rfl (And.intro rfl trivial)))))
              | (have z : ¬ ansSt (besQ σ.1 ((bfQ σ.1 σ.2.1 k).2.1 k) ((bfQ σ.1 σ.2.1 k).2.2 k + 1) (bfQ σ.1 σ.2.1 k) m) (mvN σ.1 ((bfQ σ.1 σ.2.1 k).2.1 k) m) = -5 := h93
                 have zm : memB (besQ σ.1 ((bfQ σ.1 σ.2.1 k).2.1 k) ((bfQ σ.1 σ.2.1 k).2.2 k + 1) (bfQ σ.1 σ.2.1 k) m) (mvN σ.1 ((bfQ σ.1 σ.2.1 k).2.1 k) m) = true := by
                   cases y : memB (besQ σ.1 ((bfQ σ.1 σ.2.1 k).2.1 k) ((bfQ σ.1 σ.2.1 k).2.2 k + 1) (bfQ σ.1 σ.2.1 k) m) (mvN σ.1 ((bfQ σ.1 σ.2.1 k).2.1 k) m)
                   · exact absurd (sq_no y) z
                   · rfl
                 have e1 : (besQ σ.1 ((bfQ σ.1 σ.2.1 k).2.1 k) ((bfQ σ.1 σ.2.1 k).2.2 k + 1) (bfQ σ.1 σ.2.1 k) m) = besQ σ.1 ((bfQ σ.1 σ.2.1 k).2.1 k) ((bfQ σ.1 σ.2.1 k).2.2 k + 1) (bfQ σ.1 σ.2.1 k) (m + 1) := (mt_y zm).symm
                 rw [e1] at hJ ⊢
                 exact tm_wkr (ihm _ hJ) (And.intro rfl (And.intro rfl (And.intro rfl (And.intro rfl trivial)))))
        · refine tm_iload_3 60 rfl dX10_reached_59 ?_
          refine tm_iconst (2) rfl 61 rfl dX10_reached_60 ?_
          refine tm_aload_0 62 rfl dX10_reached_61 ?_
          refine tm_getr fl_X10_11 rfl rfl 65 rfl dX10_reached_62 ?_
          refine tm_iconst (0) rfl 66 rfl dX10_reached_65 ?_
          refine tm_ald rfl (ix := 0) ⟨by decide, by decide, by decide⟩ 67 rfl dX10_reached_66 ?_
          rw [hJ.2.2 55 (by decide) (by decide), hn, show (2 : Int32) = nI 2 from rfl]
          refine tm_imul 68 rfl dX10_reached_67 ?_
          rw [pk_mul]
          refine tm_icmp_gt_t 133 (by rw [fa_lt, nI_toInt (by omega), nI_toInt (by omega)]; omega) rfl dX10_reached_68 ?_
          refine tm_iinc_2 (nI (k + 1)) (iinc1 k) (by decide) rfl 136 rfl dX10_reached_133 ?_
          refine tm_goto 52 rfl dX10_reached_136 ?_
          rw [show besQ σ.1 ((bfQ σ.1 σ.2.1 k).2.1 k) ((bfQ σ.1 σ.2.1 k).2.2 k + 1) (bfQ σ.1 σ.2.1 k) (2 * σ.1 + 1) = bfQ σ.1 σ.2.1 (k + 1) from (bf_y hks).symm] at hJ ⊢
          exact tm_wkr (ih _ hJ) (And.intro rfl (And.intro rfl (And.intro rfl trivial)))
        · exact hI
    · have hqk := bf_ok h4 hσ.2.2.1 768
      have hq7 := q_768 hqk
      refine tm_iload_2 53 rfl dX10_reached_52 ?_
      refine tm_iload_1 54 rfl dX10_reached_53 ?_
      refine tm_icmp_ge_t 139 (nI_le hq7 (by decide)) rfl dX10_reached_54 ?_
      refine tm_iload_1 140 rfl dX10_reached_139 ?_
      exact tm_iretR (by first | (have z : nI (bfQ σ.1 σ.2.1 k).1 ≤ nI k := h54; have e : (bfQ σ.1 σ.2.1 k) = orbF σ.1 σ.2.1 := bf_end (by have := nI_le_le z (by omega) (by omega); omega) (by omega); exact ⟨rfl, by rw [e], fun u hu => by rw [← e]; exact hI.1 u hu, hI.2.2⟩) | exact ⟨rfl, rfl, hI.1, hI.2.2⟩) dX10_reached_140
    · exact re_0 hσ.2.2.1

set_option maxRecDepth 100000 in
set_option maxHeartbeats 4000000 in
theorem c_X10_steps {g : GC} {d : Nat} {M : MI} {L : ML} {σ : AS} (hM : hasM M σ) (hσ : okS σ) : CrI g (d + 4) yX10_steps cX10_steps 2 .int [rf g 54] M L (fun r M' L' => L' = L ∧ r = ansSt (orbF σ.1 σ.2.1) σ.2.2.1 ∧ frW M M') := by
  have hn := hM.1
  have h4 := hσ.2.1
  have h16 := pow4 h4
  have hp1 := Nat.two_pow_pos σ.1
  have hc := okp hσ
  have h65 := p65 h4
  have hok := bf_ok h4 hσ.2.2.1 768
  have h7 : (orbF σ.1 σ.2.1).1 ≤ 768 := q_768 hok
  have h1 : 1 ≤ (orbF σ.1 σ.2.1).1 := hok.1
  have hk2 := hσ.2.2.2.1
  refine crI_of (own := RX10) (l := [some (rf g 54), none]) 1 rfl rfl rfl (Nat.le_of_ble_eq_true rfl) ?_
  refine tm_aload_0 1 rfl dX10_steps_0 ?_
  refine tm_callVr_I (ci := 9) (c_X10_reached hM hσ) mv_X10_reached ml_X10_145 rfl rfl rfl rfl rfl (Nat.le_of_ble_eq_true rfl) 4 rfl dX10_steps_1 (fun F1 M1 L1 hQ => ?_)
  obtain ⟨hL1, hr, hA, hW⟩ := hQ
  have hL1 := hL1.symm
  subst hL1
  subst hr
  refine tm_istore_1 (by decide) rfl 5 rfl dX10_steps_4 ?_
  refine tm_iload_1 6 rfl dX10_steps_5 ?_
  refine tm_if_le_f 9 (nI_nle h1 (by omega)) rfl rfl dX10_steps_6 ?_
  refine tm_aload_0 10 rfl dX10_steps_9 ?_
  refine tm_getr fl_X10_25 rfl rfl 13 rfl dX10_steps_10 ?_
  refine tm_aload_0 14 rfl dX10_steps_13 ?_
  refine tm_getr fl_X10_11 rfl rfl 17 rfl dX10_steps_14 ?_
  refine tm_iconst (2) rfl 18 rfl dX10_steps_17 ?_
  skip
  refine tm_ald rfl (ix := 2) ⟨by decide, by decide, by decide⟩ 19 rfl dX10_steps_18 ?_
  rw [hW 55 (by decide) (by decide), hM.2.2.1]
  refine tm_ald rfl (ix_nI (show σ.2.2.1 < 65536 by omega) (by decide)) 20 rfl dX10_steps_19 ?_
  rw [hA _ hk2]
  refine tm_goto 25 rfl dX10_steps_20 ?_
  exact tm_iretR ⟨rfl, rfl, hW⟩ dX10_steps_25


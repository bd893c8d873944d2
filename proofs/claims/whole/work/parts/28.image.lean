/-! the image, counts, feed -/
def rowQ (M M' : MI) (r q n : Nat) : Prop := M' r 2 = M q 2 ∧ ∀ k, k < n → M' (r + 1) k = M (q + 1) k ∧ M' (r + 2) k = M (q + 2) k
def cpRo (M : MI) (r q n : Nat) : MI := s1 (cpR (cpR M (q + 1) (r + 1) n) (q + 2) (r + 2) n) r 2 (M q 2)
theorem cpRo_ne {M : MI} {r q n i : Nat} (h : i ≠ r) (h1 : i ≠ r + 1) (h2 : i ≠ r + 2) : cpRo M r q n i = M i := by unfold cpRo; rw [s1_ne h, cpR_ne h2, cpR_ne h1]
theorem cpRo_q {M : MI} {r q n : Nat} (h1 : q + 2 ≠ r + 1) : rowQ M (cpRo M r q n) r q n := by
  refine ⟨s1_eq _ _ _ _, fun k hk => ⟨?_, ?_⟩⟩
  · unfold cpRo; rw [s1_ne (by omega), cpR_ne (by omega), cpR_at hk]
  · unfold cpRo; rw [s1_ne (by omega), cpR_at hk, cpR_ne h1]
set_option maxRecDepth 100000 in
set_option maxHeartbeats 4000000 in
theorem c_X2_copyFrom {g : GC} {d : Nat} {M : MI} {L : ML} {r q n : Nat} (hr : rowS r n) (hq : rowS q n) (hn : n < 2 ^ 31) (h1 : q ≠ r + 1) (h2 : q ≠ r + 2) : CfV g (d + 2) yX2_copyFrom cX2_copyFrom 2 [rf g r, rf g q] M L (cpRo M r q n) (L) := by
  refine cfV_of (own := RX2) (l := [some (rf g r), some (rf g q)]) 0 rfl rfl rfl (Nat.le_of_ble_eq_true rfl) ?_
  refine tm_aload_1 1 rfl dX2_copyFrom_0 ?_
  refine tm_getr fl_X2_13 hq.1 rfl 4 rfl dX2_copyFrom_1 ?_
  refine tm_aload_0 5 rfl dX2_copyFrom_4 ?_
  refine tm_getr fl_X2_13 hr.1 rfl 8 rfl dX2_copyFrom_5 ?_
  refine tm_callS_V (c_X4_copyRow hq.2.1 hr.2.1 hn) ms_X4_copyRow ml_X2_20 rfl rfl (Nat.le_of_ble_eq_true rfl) 11 rfl dX2_copyFrom_8 ?_
  refine tm_aload_1 12 rfl dX2_copyFrom_11 ?_
  refine tm_getr fl_X2_17 hq.1 rfl 15 rfl dX2_copyFrom_12 ?_
  refine tm_aload_0 16 rfl dX2_copyFrom_15 ?_
  refine tm_getr fl_X2_17 hr.1 rfl 19 rfl dX2_copyFrom_16 ?_
  refine tm_callS_V (c_X4_copyRow hq.2.2 hr.2.2 hn) ms_X4_copyRow ml_X2_20 rfl rfl (Nat.le_of_ble_eq_true rfl) 22 rfl dX2_copyFrom_19 ?_
  refine tm_aload_0 23 rfl dX2_copyFrom_22 ?_
  refine tm_aload_1 24 rfl dX2_copyFrom_23 ?_
  refine tm_geti fl_X2_7 hq.1 rfl 27 rfl dX2_copyFrom_24 ?_
  rw [cpR_ne h2, cpR_ne h1]
  refine tm_puti fl_X2_7 fw_1_2 hr.1 rfl rfl rfl 30 rfl dX2_copyFrom_27 ?_
  exact tm_vret rfl rfl dX2_copyFrom_30

def cpQ (a b : Nat) (M M' : MI) : Prop := (∀ i k, ¬ (a ≤ i ∧ i ≤ a + 10) → M' i k = M i k) ∧ (M' a 0 = M b 0 ∧ M' a 1 = M b 1 ∧ M' a 2 = M b 2 ∧ M' a 4 = M b 4) ∧ (∀ k, k < 4 → M' (a + 1) k = M (b + 1) k) ∧ rowQ M M' (a + 2) (b + 2) 6 ∧ rowQ M M' (a + 5) (b + 5) 8 ∧ rowQ M M' (a + 8) (b + 8) 8
def cpS_12 (M : MI) : MI := cpRo (cpRo (cpRo (cpR (s1 (s1 (s1 (s1 (M) 12 0 (M 1 0)) 12 1 (M 1 1)) 12 2 (M 1 2)) 12 4 (M 1 4)) 2 13 4) 14 3 6) 17 6 8) 20 9 8
theorem cpS_12_q (M : MI) : cpQ 12 1 M (cpS_12 M) := by
  unfold cpS_12
  generalize hm0 : s1 (s1 (s1 (s1 M 12 0 (M 1 0)) 12 1 (M 1 1)) 12 2 (M 1 2)) 12 4 (M 1 4) = m0
  have e0 : ∀ i, i ≠ 12 → m0 i = M i := fun i h => by rw [← hm0, s1_ne h, s1_ne h, s1_ne h, s1_ne h]
  have c0 : m0 12 0 = M 1 0 := by rw [← hm0, s1_nk (by decide), s1_nk (by decide), s1_nk (by decide), s1_eq]
  have c1 : m0 12 1 = M 1 1 := by rw [← hm0, s1_nk (by decide), s1_nk (by decide), s1_eq]
  have c2 : m0 12 2 = M 1 2 := by rw [← hm0, s1_nk (by decide), s1_eq]
  have c4 : m0 12 4 = M 1 4 := by rw [← hm0, s1_eq]
  generalize hm1 : cpR m0 2 13 4 = m1
  have e1 : ∀ i, i ≠ 13 → m1 i = m0 i := fun i h => by rw [← hm1, cpR_ne h]
  have w1 : ∀ k, k < 4 → m1 13 k = M 2 k := fun k hk => by rw [← hm1, cpR_at hk, e0 _ (by decide)]
  generalize hm2 : cpRo m1 14 3 6 = m2
  have e2 : ∀ i, i ≠ 14 → i ≠ 15 → i ≠ 16 → m2 i = m1 i := fun i h h1 h2 => by rw [← hm2, cpRo_ne h h1 h2]
  have q2 := cpRo_q (M := m1) (r := 14) (q := 3) (n := 6) (by decide)
  rw [hm2] at q2
  generalize hm3 : cpRo m2 17 6 8 = m3
  have e3 : ∀ i, i ≠ 17 → i ≠ 18 → i ≠ 19 → m3 i = m2 i := fun i h h1 h2 => by rw [← hm3, cpRo_ne h h1 h2]
  have q3 := cpRo_q (M := m2) (r := 17) (q := 6) (n := 8) (by decide)
  rw [hm3] at q3
  generalize hm4 : cpRo m3 20 9 8 = m4
  have e4 : ∀ i, i ≠ 20 → i ≠ 21 → i ≠ 22 → m4 i = m3 i := fun i h h1 h2 => by rw [← hm4, cpRo_ne h h1 h2]
  have q4 := cpRo_q (M := m3) (r := 20) (q := 9) (n := 8) (by decide)
  rw [hm4] at q4
  refine ⟨fun i k h => ?_, ⟨?_, ?_, ?_, ?_⟩, fun k hk => ?_, ⟨?_, fun k hk => ⟨?_, ?_⟩⟩, ⟨?_, fun k hk => ⟨?_, ?_⟩⟩, ⟨?_, fun k hk => ⟨?_, ?_⟩⟩⟩
  · rw [e4 i (by omega) (by omega) (by omega), e3 i (by omega) (by omega) (by omega), e2 i (by omega) (by omega) (by omega), e1 i (by omega), e0 i (by omega)]
  · rw [e4 _ (by decide) (by decide) (by decide), e3 _ (by decide) (by decide) (by decide), e2 _ (by decide) (by decide) (by decide), e1 _ (by decide), c0]
  · rw [e4 _ (by decide) (by decide) (by decide), e3 _ (by decide) (by decide) (by decide), e2 _ (by decide) (by decide) (by decide), e1 _ (by decide), c1]
  · rw [e4 _ (by decide) (by decide) (by decide), e3 _ (by decide) (by decide) (by decide), e2 _ (by decide) (by decide) (by decide), e1 _ (by decide), c2]
  · rw [e4 _ (by decide) (by decide) (by decide), e3 _ (by decide) (by decide) (by decide), e2 _ (by decide) (by decide) (by decide), e1 _ (by decide), c4]
  · rw [e4 _ (by decide) (by decide) (by decide), e3 _ (by decide) (by decide) (by decide), e2 _ (by decide) (by decide) (by decide), w1 k hk]
  · rw [e4 _ (by decide) (by decide) (by decide), e3 _ (by decide) (by decide) (by decide), q2.1, e1 _ (by decide), e0 _ (by decide)]
  · rw [e4 _ (by decide) (by decide) (by decide), e3 _ (by decide) (by decide) (by decide), (q2.2 k hk).1, e1 _ (by decide), e0 _ (by decide)]
  · rw [e4 _ (by decide) (by decide) (by decide), e3 _ (by decide) (by decide) (by decide), (q2.2 k hk).2, e1 _ (by decide), e0 _ (by decide)]
  · rw [e4 _ (by decide) (by decide) (by decide), q3.1, e2 _ (by decide) (by decide) (by decide), e1 _ (by decide), e0 _ (by decide)]
  · rw [e4 _ (by decide) (by decide) (by decide), (q3.2 k hk).1, e2 _ (by decide) (by decide) (by decide), e1 _ (by decide), e0 _ (by decide)]
  · rw [e4 _ (by decide) (by decide) (by decide), (q3.2 k hk).2, e2 _ (by decide) (by decide) (by decide), e1 _ (by decide), e0 _ (by decide)]
  · rw [q4.1, e3 _ (by decide) (by decide) (by decide), e2 _ (by decide) (by decide) (by decide), e1 _ (by decide), e0 _ (by decide)]
  · rw [(q4.2 k hk).1, e3 _ (by decide) (by decide) (by decide), e2 _ (by decide) (by decide) (by decide), e1 _ (by decide), e0 _ (by decide)]
  · rw [(q4.2 k hk).2, e3 _ (by decide) (by decide) (by decide), e2 _ (by decide) (by decide) (by decide), e1 _ (by decide), e0 _ (by decide)]
set_option maxRecDepth 100000 in
set_option maxHeartbeats 4000000 in
theorem c_X4_copyFrom_12 {g : GC} {d : Nat} {M : MI} {L : ML}  : CfV g (d + 3) yX4_copyFrom cX4_copyFrom 2 [rf g 12, rf g 1] M L (cpS_12 M) (L) := by
  refine cfV_of (own := RX4) (l := [some (rf g 12), some (rf g 1)]) 0 rfl rfl rfl (Nat.le_of_ble_eq_true rfl) ?_
  refine tm_aload_0 1 rfl dX4_copyFrom_0 ?_
  refine tm_aload_1 2 rfl dX4_copyFrom_1 ?_
  refine tm_geti fl_X4_9 rfl rfl 5 rfl dX4_copyFrom_2 ?_
  refine tm_puti fl_X4_9 fw_3_0 rfl rfl rfl rfl 8 rfl dX4_copyFrom_5 ?_
  refine tm_aload_0 9 rfl dX4_copyFrom_8 ?_
  refine tm_aload_1 10 rfl dX4_copyFrom_9 ?_
  refine tm_geti fl_X4_15 rfl rfl 13 rfl dX4_copyFrom_10 ?_
  rw [s1_ne (by decide)]
  refine tm_puti fl_X4_15 fw_3_1 rfl rfl rfl rfl 16 rfl dX4_copyFrom_13 ?_
  refine tm_aload_0 17 rfl dX4_copyFrom_16 ?_
  refine tm_aload_1 18 rfl dX4_copyFrom_17 ?_
  refine tm_geti fl_X4_18 rfl rfl 21 rfl dX4_copyFrom_18 ?_
  rw [s1_ne (by decide), s1_ne (by decide)]
  refine tm_puti fl_X4_18 fw_3_2 rfl rfl rfl rfl 24 rfl dX4_copyFrom_21 ?_
  refine tm_aload_0 25 rfl dX4_copyFrom_24 ?_
  refine tm_aload_1 26 rfl dX4_copyFrom_25 ?_
  refine tm_geti fl_X4_25 rfl rfl 29 rfl dX4_copyFrom_26 ?_
  rw [s1_ne (by decide), s1_ne (by decide), s1_ne (by decide)]
  refine tm_puti fl_X4_25 fw_3_4 rfl rfl rfl rfl 32 rfl dX4_copyFrom_29 ?_
  refine tm_aload_1 33 rfl dX4_copyFrom_32 ?_
  refine tm_getr fl_X4_21 rfl rfl 36 rfl dX4_copyFrom_33 ?_
  refine tm_aload_0 37 rfl dX4_copyFrom_36 ?_
  refine tm_getr fl_X4_21 rfl rfl 40 rfl dX4_copyFrom_37 ?_
  refine tm_callS_V (c_X4_copyRow (n := 4) rfl rfl (by decide)) ms_X4_copyRow ml_X4_43 rfl rfl (Nat.le_of_ble_eq_true rfl) 43 rfl dX4_copyFrom_40 ?_
  refine tm_aload_0 44 rfl dX4_copyFrom_43 ?_
  refine tm_getr fl_X4_33 rfl rfl 47 rfl dX4_copyFrom_44 ?_
  refine tm_aload_1 48 rfl dX4_copyFrom_47 ?_
  refine tm_getr fl_X4_33 rfl rfl 51 rfl dX4_copyFrom_48 ?_
  refine tm_callV_V (ci := 1) (c_X2_copyFrom (r := 14) (q := 3) (n := 6) ⟨rfl, rfl, rfl⟩ ⟨rfl, rfl, rfl⟩ (by decide) (by decide) (by decide)) mv_X2_copyFrom ml_X4_47 rfl rfl rfl rfl rfl (Nat.le_of_ble_eq_true rfl) 54 rfl dX4_copyFrom_51 ?_
  refine tm_aload_0 55 rfl dX4_copyFrom_54 ?_
  refine tm_getr fl_X4_37 rfl rfl 58 rfl dX4_copyFrom_55 ?_
  refine tm_aload_1 59 rfl dX4_copyFrom_58 ?_
  refine tm_getr fl_X4_37 rfl rfl 62 rfl dX4_copyFrom_59 ?_
  refine tm_callV_V (ci := 1) (c_X2_copyFrom (r := 17) (q := 6) (n := 8) ⟨rfl, rfl, rfl⟩ ⟨rfl, rfl, rfl⟩ (by decide) (by decide) (by decide)) mv_X2_copyFrom ml_X4_47 rfl rfl rfl rfl rfl (Nat.le_of_ble_eq_true rfl) 65 rfl dX4_copyFrom_62 ?_
  refine tm_aload_0 66 rfl dX4_copyFrom_65 ?_
  refine tm_getr fl_X4_40 rfl rfl 69 rfl dX4_copyFrom_66 ?_
  refine tm_aload_1 70 rfl dX4_copyFrom_69 ?_
  refine tm_getr fl_X4_40 rfl rfl 73 rfl dX4_copyFrom_70 ?_
  refine tm_callV_V (ci := 1) (c_X2_copyFrom (r := 20) (q := 9) (n := 8) ⟨rfl, rfl, rfl⟩ ⟨rfl, rfl, rfl⟩ (by decide) (by decide) (by decide)) mv_X2_copyFrom ml_X4_47 rfl rfl rfl rfl rfl (Nat.le_of_ble_eq_true rfl) 76 rfl dX4_copyFrom_73 ?_
  exact tm_vret rfl rfl dX4_copyFrom_76

def cpS_1 (M : MI) : MI := cpRo (cpRo (cpRo (cpR (s1 (s1 (s1 (s1 (M) 1 0 (M 12 0)) 1 1 (M 12 1)) 1 2 (M 12 2)) 1 4 (M 12 4)) 13 2 4) 3 14 6) 6 17 8) 9 20 8
theorem cpS_1_q (M : MI) : cpQ 1 12 M (cpS_1 M) := by
  unfold cpS_1
  generalize hm0 : s1 (s1 (s1 (s1 M 1 0 (M 12 0)) 1 1 (M 12 1)) 1 2 (M 12 2)) 1 4 (M 12 4) = m0
  have e0 : ∀ i, i ≠ 1 → m0 i = M i := fun i h => by rw [← hm0, s1_ne h, s1_ne h, s1_ne h, s1_ne h]
  have c0 : m0 1 0 = M 12 0 := by rw [← hm0, s1_nk (by decide), s1_nk (by decide), s1_nk (by decide), s1_eq]
  have c1 : m0 1 1 = M 12 1 := by rw [← hm0, s1_nk (by decide), s1_nk (by decide), s1_eq]
  have c2 : m0 1 2 = M 12 2 := by rw [← hm0, s1_nk (by decide), s1_eq]
  have c4 : m0 1 4 = M 12 4 := by rw [← hm0, s1_eq]
  generalize hm1 : cpR m0 13 2 4 = m1
  have e1 : ∀ i, i ≠ 2 → m1 i = m0 i := fun i h => by rw [← hm1, cpR_ne h]
  have w1 : ∀ k, k < 4 → m1 2 k = M 13 k := fun k hk => by rw [← hm1, cpR_at hk, e0 _ (by decide)]
  generalize hm2 : cpRo m1 3 14 6 = m2
  have e2 : ∀ i, i ≠ 3 → i ≠ 4 → i ≠ 5 → m2 i = m1 i := fun i h h1 h2 => by rw [← hm2, cpRo_ne h h1 h2]
  have q2 := cpRo_q (M := m1) (r := 3) (q := 14) (n := 6) (by decide)
  rw [hm2] at q2
  generalize hm3 : cpRo m2 6 17 8 = m3
  have e3 : ∀ i, i ≠ 6 → i ≠ 7 → i ≠ 8 → m3 i = m2 i := fun i h h1 h2 => by rw [← hm3, cpRo_ne h h1 h2]
  have q3 := cpRo_q (M := m2) (r := 6) (q := 17) (n := 8) (by decide)
  rw [hm3] at q3
  generalize hm4 : cpRo m3 9 20 8 = m4
  have e4 : ∀ i, i ≠ 9 → i ≠ 10 → i ≠ 11 → m4 i = m3 i := fun i h h1 h2 => by rw [← hm4, cpRo_ne h h1 h2]
  have q4 := cpRo_q (M := m3) (r := 9) (q := 20) (n := 8) (by decide)
  rw [hm4] at q4
  refine ⟨fun i k h => ?_, ⟨?_, ?_, ?_, ?_⟩, fun k hk => ?_, ⟨?_, fun k hk => ⟨?_, ?_⟩⟩, ⟨?_, fun k hk => ⟨?_, ?_⟩⟩, ⟨?_, fun k hk => ⟨?_, ?_⟩⟩⟩
  · rw [e4 i (by omega) (by omega) (by omega), e3 i (by omega) (by omega) (by omega), e2 i (by omega) (by omega) (by omega), e1 i (by omega), e0 i (by omega)]
  · rw [e4 _ (by decide) (by decide) (by decide), e3 _ (by decide) (by decide) (by decide), e2 _ (by decide) (by decide) (by decide), e1 _ (by decide), c0]
  · rw [e4 _ (by decide) (by decide) (by decide), e3 _ (by decide) (by decide) (by decide), e2 _ (by decide) (by decide) (by decide), e1 _ (by decide), c1]
  · rw [e4 _ (by decide) (by decide) (by decide), e3 _ (by decide) (by decide) (by decide), e2 _ (by decide) (by decide) (by decide), e1 _ (by decide), c2]
  · rw [e4 _ (by decide) (by decide) (by decide), e3 _ (by decide) (by decide) (by decide), e2 _ (by decide) (by decide) (by decide), e1 _ (by decide), c4]
  · rw [e4 _ (by decide) (by decide) (by decide), e3 _ (by decide) (by decide) (by decide), e2 _ (by decide) (by decide) (by decide), w1 k hk]
  · rw [e4 _ (by decide) (by decide) (by decide), e3 _ (by decide) (by decide) (by decide), q2.1, e1 _ (by decide), e0 _ (by decide)]
  · rw [e4 _ (by decide) (by decide) (by decide), e3 _ (by decide) (by decide) (by decide), (q2.2 k hk).1, e1 _ (by decide), e0 _ (by decide)]
  · rw [e4 _ (by decide) (by decide) (by decide), e3 _ (by decide) (by decide) (by decide), (q2.2 k hk).2, e1 _ (by decide), e0 _ (by decide)]
  · rw [e4 _ (by decide) (by decide) (by decide), q3.1, e2 _ (by decide) (by decide) (by decide), e1 _ (by decide), e0 _ (by decide)]
  · rw [e4 _ (by decide) (by decide) (by decide), (q3.2 k hk).1, e2 _ (by decide) (by decide) (by decide), e1 _ (by decide), e0 _ (by decide)]
  · rw [e4 _ (by decide) (by decide) (by decide), (q3.2 k hk).2, e2 _ (by decide) (by decide) (by decide), e1 _ (by decide), e0 _ (by decide)]
  · rw [q4.1, e3 _ (by decide) (by decide) (by decide), e2 _ (by decide) (by decide) (by decide), e1 _ (by decide), e0 _ (by decide)]
  · rw [(q4.2 k hk).1, e3 _ (by decide) (by decide) (by decide), e2 _ (by decide) (by decide) (by decide), e1 _ (by decide), e0 _ (by decide)]
  · rw [(q4.2 k hk).2, e3 _ (by decide) (by decide) (by decide), e2 _ (by decide) (by decide) (by decide), e1 _ (by decide), e0 _ (by decide)]
set_option maxRecDepth 100000 in
set_option maxHeartbeats 4000000 in
theorem c_X4_copyFrom_1 {g : GC} {d : Nat} {M : MI} {L : ML}  : CfV g (d + 3) yX4_copyFrom cX4_copyFrom 2 [rf g 1, rf g 12] M L (cpS_1 M) (L) := by
  refine cfV_of (own := RX4) (l := [some (rf g 1), some (rf g 12)]) 0 rfl rfl rfl (Nat.le_of_ble_eq_true rfl) ?_
  refine tm_aload_0 1 rfl dX4_copyFrom_0 ?_
  refine tm_aload_1 2 rfl dX4_copyFrom_1 ?_
  refine tm_geti fl_X4_9 rfl rfl 5 rfl dX4_copyFrom_2 ?_
  refine tm_puti fl_X4_9 fw_3_0 rfl rfl rfl rfl 8 rfl dX4_copyFrom_5 ?_
  refine tm_aload_0 9 rfl dX4_copyFrom_8 ?_
  refine tm_aload_1 10 rfl dX4_copyFrom_9 ?_
  refine tm_geti fl_X4_15 rfl rfl 13 rfl dX4_copyFrom_10 ?_
  rw [s1_ne (by decide)]
  refine tm_puti fl_X4_15 fw_3_1 rfl rfl rfl rfl 16 rfl dX4_copyFrom_13 ?_
  refine tm_aload_0 17 rfl dX4_copyFrom_16 ?_
  refine tm_aload_1 18 rfl dX4_copyFrom_17 ?_
  refine tm_geti fl_X4_18 rfl rfl 21 rfl dX4_copyFrom_18 ?_
  rw [s1_ne (by decide), s1_ne (by decide)]
  refine tm_puti fl_X4_18 fw_3_2 rfl rfl rfl rfl 24 rfl dX4_copyFrom_21 ?_
  refine tm_aload_0 25 rfl dX4_copyFrom_24 ?_
  refine tm_aload_1 26 rfl dX4_copyFrom_25 ?_
  refine tm_geti fl_X4_25 rfl rfl 29 rfl dX4_copyFrom_26 ?_
  rw [s1_ne (by decide), s1_ne (by decide), s1_ne (by decide)]
  refine tm_puti fl_X4_25 fw_3_4 rfl rfl rfl rfl 32 rfl dX4_copyFrom_29 ?_
  refine tm_aload_1 33 rfl dX4_copyFrom_32 ?_
  refine tm_getr fl_X4_21 rfl rfl 36 rfl dX4_copyFrom_33 ?_
  refine tm_aload_0 37 rfl dX4_copyFrom_36 ?_
  refine tm_getr fl_X4_21 rfl rfl 40 rfl dX4_copyFrom_37 ?_
  refine tm_callS_V (c_X4_copyRow (n := 4) rfl rfl (by decide)) ms_X4_copyRow ml_X4_43 rfl rfl (Nat.le_of_ble_eq_true rfl) 43 rfl dX4_copyFrom_40 ?_
  refine tm_aload_0 44 rfl dX4_copyFrom_43 ?_
  refine tm_getr fl_X4_33 rfl rfl 47 rfl dX4_copyFrom_44 ?_
  refine tm_aload_1 48 rfl dX4_copyFrom_47 ?_
  refine tm_getr fl_X4_33 rfl rfl 51 rfl dX4_copyFrom_48 ?_
  refine tm_callV_V (ci := 1) (c_X2_copyFrom (r := 3) (q := 14) (n := 6) ⟨rfl, rfl, rfl⟩ ⟨rfl, rfl, rfl⟩ (by decide) (by decide) (by decide)) mv_X2_copyFrom ml_X4_47 rfl rfl rfl rfl rfl (Nat.le_of_ble_eq_true rfl) 54 rfl dX4_copyFrom_51 ?_
  refine tm_aload_0 55 rfl dX4_copyFrom_54 ?_
  refine tm_getr fl_X4_37 rfl rfl 58 rfl dX4_copyFrom_55 ?_
  refine tm_aload_1 59 rfl dX4_copyFrom_58 ?_
  refine tm_getr fl_X4_37 rfl rfl 62 rfl dX4_copyFrom_59 ?_
  refine tm_callV_V (ci := 1) (c_X2_copyFrom (r := 6) (q := 17) (n := 8) ⟨rfl, rfl, rfl⟩ ⟨rfl, rfl, rfl⟩ (by decide) (by decide) (by decide)) mv_X2_copyFrom ml_X4_47 rfl rfl rfl rfl rfl (Nat.le_of_ble_eq_true rfl) 65 rfl dX4_copyFrom_62 ?_
  refine tm_aload_0 66 rfl dX4_copyFrom_65 ?_
  refine tm_getr fl_X4_40 rfl rfl 69 rfl dX4_copyFrom_66 ?_
  refine tm_aload_1 70 rfl dX4_copyFrom_69 ?_
  refine tm_getr fl_X4_40 rfl rfl 73 rfl dX4_copyFrom_70 ?_
  refine tm_callV_V (ci := 1) (c_X2_copyFrom (r := 9) (q := 20) (n := 8) ⟨rfl, rfl, rfl⟩ ⟨rfl, rfl, rfl⟩ (by decide) (by decide) (by decide)) mv_X2_copyFrom ml_X4_47 rfl rfl rfl rfl rfl (Nat.le_of_ble_eq_true rfl) 76 rfl dX4_copyFrom_73 ?_
  exact tm_vret rfl rfl dX4_copyFrom_76

set_option maxRecDepth 100000 in
set_option maxHeartbeats 4000000 in
theorem c_X9_image {g : GC} {d : Nat} {M : MI} {L : ML}  : CfI g (d + 4) yX9_image cX9_image 1 .int [rf g 0] M L (M 1 1) (s1 (cpS_12 M) 0 2 1) (L) := by
  refine cfI_of (own := RX9) (l := [some (rf g 0)]) 0 rfl rfl rfl (Nat.le_of_ble_eq_true rfl) ?_
  refine tm_aload_0 1 rfl dX9_image_0 ?_
  refine tm_getr fl_X9_18 rfl rfl 4 rfl dX9_image_1 ?_
  refine tm_aload_0 5 rfl dX9_image_4 ?_
  refine tm_getr fl_X9_12 rfl rfl 8 rfl dX9_image_5 ?_
  refine tm_callV_V (ci := 3) (c_X4_copyFrom_12) mv_X4_copyFrom ml_X9_308 rfl rfl rfl rfl rfl (Nat.le_of_ble_eq_true rfl) 11 rfl dX9_image_8 ?_
  refine tm_aload_0 12 rfl dX9_image_11 ?_
  refine tm_iconst (1) rfl 13 rfl dX9_image_12 ?_
  refine tm_puti fl_X9_21 fw_8_2 rfl rfl rfl rfl 16 rfl dX9_image_13 ?_
  refine tm_aload_0 17 rfl dX9_image_16 ?_
  refine tm_getr fl_X9_12 rfl rfl 20 rfl dX9_image_17 ?_
  refine tm_geti fl_X9_82 rfl rfl 23 rfl dX9_image_20 ?_
  exact tm_iret (by rw [s1_ne (by decide)]; exact (cpS_12_q M).1 1 1 (by omega)) rfl rfl dX9_image_23

set_option maxRecDepth 100000 in
set_option maxHeartbeats 4000000 in
theorem c_X9_undo_n {g : GC} {d : Nat} {M : MI} {L : ML} (h : M 0 2 = 0) : CfI g (d + 4) yX9_undo cX9_undo 1 .int [rf g 0] M L (-3) (M) (L) := by
  refine cfI_of (own := RX9) (l := [some (rf g 0)]) 0 rfl rfl rfl (Nat.le_of_ble_eq_true rfl) ?_
  refine tm_aload_0 1 rfl dX9_undo_0 ?_
  refine tm_geti fl_X9_21 rfl rfl 4 rfl dX9_undo_1 ?_
  rw [h]
  refine tm_if_ne_f 7 (rfl) rfl rfl dX9_undo_4 ?_
  refine tm_bipush (-3) (by decide) 9 rfl dX9_undo_7 ?_
  exact tm_iret rfl rfl rfl dX9_undo_9

set_option maxRecDepth 100000 in
set_option maxHeartbeats 4000000 in
theorem c_X9_undo_y {g : GC} {d : Nat} {M : MI} {L : ML} (h : M 0 2 = 1) : CfI g (d + 4) yX9_undo cX9_undo 1 .int [rf g 0] M L (M 12 1) (cpS_1 M) (L) := by
  refine cfI_of (own := RX9) (l := [some (rf g 0)]) 0 rfl rfl rfl (Nat.le_of_ble_eq_true rfl) ?_
  refine tm_aload_0 1 rfl dX9_undo_0 ?_
  refine tm_geti fl_X9_21 rfl rfl 4 rfl dX9_undo_1 ?_
  rw [h]
  refine tm_if_ne_t 10 (by decide) rfl dX9_undo_4 ?_
  refine tm_aload_0 11 rfl dX9_undo_10 ?_
  refine tm_getr fl_X9_12 rfl rfl 14 rfl dX9_undo_11 ?_
  refine tm_aload_0 15 rfl dX9_undo_14 ?_
  refine tm_getr fl_X9_18 rfl rfl 18 rfl dX9_undo_15 ?_
  refine tm_callV_V (ci := 3) (c_X4_copyFrom_1) mv_X4_copyFrom ml_X9_308 rfl rfl rfl rfl rfl (Nat.le_of_ble_eq_true rfl) 21 rfl dX9_undo_18 ?_
  refine tm_aload_0 22 rfl dX9_undo_21 ?_
  refine tm_getr fl_X9_12 rfl rfl 25 rfl dX9_undo_22 ?_
  refine tm_geti fl_X9_82 rfl rfl 28 rfl dX9_undo_25 ?_
  exact tm_iret ((cpS_1_q M).2.1.2.1) rfl rfl dX9_undo_28

theorem cpR_0 (M : MI) (i j : Nat) : cpR M i j 0 = M := by
  unfold cpR
  have e : (fun k => if k < 0 then M i k else M j k) = M j := by funext k; simp
  rw [e, sr_self]
theorem cpR_s {M : MI} {i j : Nat} (h : i ≠ j) (n : Nat) : s1 (cpR M i j n) j n (cpR M i j n i n) = cpR M i j (n + 1) := by
  rw [cpR_ne h]
  unfold cpR s1
  rw [sr_eq, updif _ (M i)]
  funext q
  by_cases e : q = j
  · subst e; rw [sr_eq, sr_eq]
  · rw [sr_ne e, sr_ne e, sr_ne e]
set_option maxRecDepth 100000 in
set_option maxHeartbeats 4000000 in
theorem c_X10_image {g : GC} {d : Nat} {M : MI} {L : ML}  : CfI g (d) yX10_image cX10_image 2 .int [rf g 54] M L (M 55 1) (s1 (cpR M 55 56 55) 54 2 1) (L) := by
  refine cfI_of (own := RX10) (l := [some (rf g 54), none]) 1 rfl rfl rfl (Nat.le_of_ble_eq_true rfl) ?_
  refine tm_iconst (0) rfl 1 rfl dX10_image_0 ?_
  refine tm_istore_1 (by decide) rfl 2 rfl dX10_image_1 ?_
  refine tm_mem (cpR_0 M 55 56) rfl ?_
  refine tm_loop (N := 55) (fun k => Tm g (d) RX10 cX10_image 2 (some .int) (QI g (M 55 1) (s1 (cpR M 55 56 55) 54 2 1) (L)) 2 [some (rf g 54), some (.int (nI k))] [] (cpR M 55 56 k) (L)) (fun k hk ih => ?_) ?_
  · refine tm_iload_1 3 rfl dX10_image_2 ?_
    refine tm_bipush (55) (by decide) 5 rfl dX10_image_3 ?_
    refine tm_icmp_ge_f 8 (nI_ge hk (by decide)) rfl rfl dX10_image_5 ?_
    refine tm_aload_0 9 rfl dX10_image_8 ?_
    refine tm_getr fl_X10_15 rfl rfl 12 rfl dX10_image_9 ?_
    refine tm_iload_1 13 rfl dX10_image_12 ?_
    refine tm_aload_0 14 rfl dX10_image_13 ?_
    refine tm_getr fl_X10_11 rfl rfl 17 rfl dX10_image_14 ?_
    refine tm_iload_1 18 rfl dX10_image_17 ?_
    refine tm_ald rfl (ix := k) (ix_nI hk (by decide)) 19 rfl dX10_image_18 ?_
    refine tm_ast rfl (ix := k) (ix_nI hk (by decide)) 20 rfl dX10_image_19 ?_
    refine tm_iinc_1 (nI (k + 1)) (iinc1 k) (by decide) rfl 23 rfl dX10_image_20 ?_
    refine tm_goto 2 rfl dX10_image_23 ?_
    rw [cpR_s (by decide)]
    exact ih
  · refine tm_iload_1 3 rfl dX10_image_2 ?_
    refine tm_bipush (55) (by decide) 5 rfl dX10_image_3 ?_
    refine tm_icmp_ge_t 26 (nI_le (Nat.le_refl 55) (by decide)) rfl dX10_image_5 ?_
    refine tm_aload_0 27 rfl dX10_image_26 ?_
    refine tm_iconst (1) rfl 28 rfl dX10_image_27 ?_
    refine tm_puti fl_X10_249 fw_9_2 rfl rfl rfl rfl 31 rfl dX10_image_28 ?_
    refine tm_aload_0 32 rfl dX10_image_31 ?_
    refine tm_getr fl_X10_11 rfl rfl 35 rfl dX10_image_32 ?_
    refine tm_iconst (1) rfl 36 rfl dX10_image_35 ?_
    refine tm_ald rfl (ix := 1) ⟨by decide, by decide, by decide⟩ 37 rfl dX10_image_36 ?_
    exact tm_iret (by rw [s1_ne (by decide), cpR_ne (by decide)]) rfl rfl dX10_image_37

set_option maxRecDepth 100000 in
set_option maxHeartbeats 4000000 in
theorem c_X10_undo_n {g : GC} {d : Nat} {M : MI} {L : ML} (h : M 54 2 = 0) : CfI g (d) yX10_undo cX10_undo 2 .int [rf g 54] M L (-3) (M) (L) := by
  refine cfI_of (own := RX10) (l := [some (rf g 54), none]) 1 rfl rfl rfl (Nat.le_of_ble_eq_true rfl) ?_
  refine tm_aload_0 1 rfl dX10_undo_0 ?_
  refine tm_geti fl_X10_249 rfl rfl 4 rfl dX10_undo_1 ?_
  rw [h]
  refine tm_if_ne_f 7 (rfl) rfl rfl dX10_undo_4 ?_
  refine tm_bipush (-3) (by decide) 9 rfl dX10_undo_7 ?_
  exact tm_iret rfl rfl rfl dX10_undo_9

set_option maxRecDepth 100000 in
set_option maxHeartbeats 4000000 in
theorem c_X10_undo_y {g : GC} {d : Nat} {M : MI} {L : ML} (h : M 54 2 = 1) : CfI g (d) yX10_undo cX10_undo 2 .int [rf g 54] M L (M 56 1) (cpR M 56 55 55) (L) := by
  refine cfI_of (own := RX10) (l := [some (rf g 54), none]) 1 rfl rfl rfl (Nat.le_of_ble_eq_true rfl) ?_
  refine tm_aload_0 1 rfl dX10_undo_0 ?_
  refine tm_geti fl_X10_249 rfl rfl 4 rfl dX10_undo_1 ?_
  rw [h]
  refine tm_if_ne_t 10 (by decide) rfl dX10_undo_4 ?_
  refine tm_iconst (0) rfl 11 rfl dX10_undo_10 ?_
  refine tm_istore_1 (by decide) rfl 12 rfl dX10_undo_11 ?_
  refine tm_mem (cpR_0 M 56 55) rfl ?_
  refine tm_loop (N := 55) (fun k => Tm g (d) RX10 cX10_undo 2 (some .int) (QI g (M 56 1) (cpR M 56 55 55) (L)) 12 [some (rf g 54), some (.int (nI k))] [] (cpR M 56 55 k) (L)) (fun k hk ih => ?_) ?_
  · refine tm_iload_1 13 rfl dX10_undo_12 ?_
    refine tm_bipush (55) (by decide) 15 rfl dX10_undo_13 ?_
    refine tm_icmp_ge_f 18 (nI_ge hk (by decide)) rfl rfl dX10_undo_15 ?_
    refine tm_aload_0 19 rfl dX10_undo_18 ?_
    refine tm_getr fl_X10_11 rfl rfl 22 rfl dX10_undo_19 ?_
    refine tm_iload_1 23 rfl dX10_undo_22 ?_
    refine tm_aload_0 24 rfl dX10_undo_23 ?_
    refine tm_getr fl_X10_15 rfl rfl 27 rfl dX10_undo_24 ?_
    refine tm_iload_1 28 rfl dX10_undo_27 ?_
    refine tm_ald rfl (ix := k) (ix_nI hk (by decide)) 29 rfl dX10_undo_28 ?_
    refine tm_ast rfl (ix := k) (ix_nI hk (by decide)) 30 rfl dX10_undo_29 ?_
    refine tm_iinc_1 (nI (k + 1)) (iinc1 k) (by decide) rfl 33 rfl dX10_undo_30 ?_
    refine tm_goto 12 rfl dX10_undo_33 ?_
    rw [cpR_s (by decide)]
    exact ih
  · refine tm_iload_1 13 rfl dX10_undo_12 ?_
    refine tm_bipush (55) (by decide) 15 rfl dX10_undo_13 ?_
    refine tm_icmp_ge_t 36 (nI_le (Nat.le_refl 55) (by decide)) rfl dX10_undo_15 ?_
    refine tm_aload_0 37 rfl dX10_undo_36 ?_
    refine tm_getr fl_X10_11 rfl rfl 40 rfl dX10_undo_37 ?_
    refine tm_iconst (1) rfl 41 rfl dX10_undo_40 ?_
    refine tm_ald rfl (ix := 1) ⟨by decide, by decide, by decide⟩ 42 rfl dX10_undo_41 ?_
    exact tm_iret (cpR_at (by decide)) rfl rfl dX10_undo_42

def cntA (a b c e x : Int32) : Int32 := if x = 0 then a else if x = 1 then b else if x = 2 then c else if x = 3 then e else -2
theorem cntA_x {a b c e x : Int32} (h : ¬ inN x 4 = true) : cntA a b c e x = -2 := by
  unfold cntA
  rw [if_neg (fun q => h (by rw [q]; rfl)), if_neg (fun q => h (by rw [q]; rfl)), if_neg (fun q => h (by rw [q]; rfl)), if_neg (fun q => h (by rw [q]; rfl))]
set_option maxRecDepth 100000 in
set_option maxHeartbeats 4000000 in
theorem c_X9_count {g : GC} {d : Nat} {M : MI} {L : ML} {x : Int32} : CfI g (d) yX9_count cX9_count 2 .int [rf g 0, .int x] M L (cntA (M 3 2) (M 6 2) (M 9 2) (M 23 1) x) (M) (L) := by
  refine cfI_of (own := RX9) (l := [some (rf g 0), some (.int x)]) 0 rfl rfl rfl (Nat.le_of_ble_eq_true rfl) ?_
  refine tm_iload_1 1 rfl dX9_count_0 ?_
  by_cases hs1 : inN x 4 = true
  · obtain ⟨q1, hq1, rfl⟩ := inN_of hs1
    rcases (show q1 = 0 ∨ q1 = 1 ∨ q1 = 2 ∨ q1 = 3 by omega) with rfl | rfl | rfl | rfl
    · refine tm_swIn (off := 31) 32 (by decide) (by decide) (by decide +kernel) rfl dX9_count_1 ?_
      refine tm_aload_0 33 rfl dX9_count_32 ?_
      refine tm_getr fl_X9_12 rfl rfl 36 rfl dX9_count_33 ?_
      refine tm_getr fl_X9_243 rfl rfl 39 rfl dX9_count_36 ?_
      refine tm_geti fl_X9_262 rfl rfl 42 rfl dX9_count_39 ?_
      exact tm_iret rfl rfl rfl dX9_count_42
    · refine tm_swIn (off := 42) 43 (by decide) (by decide) (by decide +kernel) rfl dX9_count_1 ?_
      refine tm_aload_0 44 rfl dX9_count_43 ?_
      refine tm_getr fl_X9_12 rfl rfl 47 rfl dX9_count_44 ?_
      refine tm_getr fl_X9_276 rfl rfl 50 rfl dX9_count_47 ?_
      refine tm_geti fl_X9_262 rfl rfl 53 rfl dX9_count_50 ?_
      exact tm_iret rfl rfl rfl dX9_count_53
    · refine tm_swIn (off := 53) 54 (by decide) (by decide) (by decide +kernel) rfl dX9_count_1 ?_
      refine tm_aload_0 55 rfl dX9_count_54 ?_
      refine tm_getr fl_X9_12 rfl rfl 58 rfl dX9_count_55 ?_
      refine tm_getr fl_X9_290 rfl rfl 61 rfl dX9_count_58 ?_
      refine tm_geti fl_X9_262 rfl rfl 64 rfl dX9_count_61 ?_
      exact tm_iret rfl rfl rfl dX9_count_64
    · refine tm_swIn (off := 64) 65 (by decide) (by decide) (by decide +kernel) rfl dX9_count_1 ?_
      refine tm_aload_0 66 rfl dX9_count_65 ?_
      refine tm_getr fl_X9_28 rfl rfl 69 rfl dX9_count_66 ?_
      refine tm_geti fl_X9_147 rfl rfl 72 rfl dX9_count_69 ?_
      exact tm_iret rfl rfl rfl dX9_count_72
  · refine tm_swOut 73 (sw_out hs1 rfl) rfl dX9_count_1 ?_
    refine tm_bipush (-2) (by decide) 75 rfl dX9_count_73 ?_
    exact tm_iret (cntA_x hs1).symm rfl rfl dX9_count_75

set_option maxRecDepth 100000 in
set_option maxHeartbeats 4000000 in
theorem c_X10_count {g : GC} {d : Nat} {M : MI} {L : ML} {x : Int32} : CfI g (d) yX10_count cX10_count 2 .int [rf g 54, .int x] M L (cntA (M 55 8) (M 55 21) (M 55 38) (M 54 9) x) (M) (L) := by
  refine cfI_of (own := RX10) (l := [some (rf g 54), some (.int x)]) 0 rfl rfl rfl (Nat.le_of_ble_eq_true rfl) ?_
  refine tm_iload_1 1 rfl dX10_count_0 ?_
  refine tm_if_ne 14 4 rfl rfl dX10_count_1 (fun h1 => ?_) (fun h1 => ?_)
  · refine tm_iload_1 15 rfl dX10_count_14 ?_
    refine tm_iconst (1) rfl 16 rfl dX10_count_15 ?_
    refine tm_icmp_ne 29 19 rfl rfl dX10_count_16 (fun h16 => ?_) (fun h16 => ?_)
    · refine tm_iload_1 30 rfl dX10_count_29 ?_
      refine tm_iconst (2) rfl 31 rfl dX10_count_30 ?_
      refine tm_icmp_ne 44 34 rfl rfl dX10_count_31 (fun h31 => ?_) (fun h31 => ?_)
      · refine tm_iload_1 45 rfl dX10_count_44 ?_
        refine tm_iconst (3) rfl 46 rfl dX10_count_45 ?_
        refine tm_icmp_ne 56 49 rfl rfl dX10_count_46 (fun h46 => ?_) (fun h46 => ?_)
        · refine tm_bipush (-2) (by decide) 58 rfl dX10_count_56 ?_
          exact tm_iret (by unfold cntA; first | rw [if_pos h1] | rw [if_neg h1, if_pos h16] | rw [if_neg h1, if_neg h16, if_pos h31] | rw [if_neg h1, if_neg h16, if_neg h31, if_pos h46] | rw [if_neg h1, if_neg h16, if_neg h31, if_neg h46]) rfl rfl dX10_count_58
        · refine tm_aload_0 50 rfl dX10_count_49 ?_
          refine tm_geti fl_X10_181 rfl rfl 53 rfl dX10_count_50 ?_
          refine tm_goto 58 rfl dX10_count_53 ?_
          exact tm_iret (by unfold cntA; first | rw [if_pos h1] | rw [if_neg h1, if_pos h16] | rw [if_neg h1, if_neg h16, if_pos h31] | rw [if_neg h1, if_neg h16, if_neg h31, if_pos h46] | rw [if_neg h1, if_neg h16, if_neg h31, if_neg h46]) rfl rfl dX10_count_58
      · refine tm_aload_0 35 rfl dX10_count_34 ?_
        refine tm_getr fl_X10_11 rfl rfl 38 rfl dX10_count_35 ?_
        refine tm_bipush (38) (by decide) 40 rfl dX10_count_38 ?_
        refine tm_ald rfl (ix := 38) ⟨by decide, by decide, by decide⟩ 41 rfl dX10_count_40 ?_
        refine tm_goto 58 rfl dX10_count_41 ?_
        exact tm_iret (by unfold cntA; first | rw [if_pos h1] | rw [if_neg h1, if_pos h16] | rw [if_neg h1, if_neg h16, if_pos h31] | rw [if_neg h1, if_neg h16, if_neg h31, if_pos h46] | rw [if_neg h1, if_neg h16, if_neg h31, if_neg h46]) rfl rfl dX10_count_58
    · refine tm_aload_0 20 rfl dX10_count_19 ?_
      refine tm_getr fl_X10_11 rfl rfl 23 rfl dX10_count_20 ?_
      refine tm_bipush (21) (by decide) 25 rfl dX10_count_23 ?_
      refine tm_ald rfl (ix := 21) ⟨by decide, by decide, by decide⟩ 26 rfl dX10_count_25 ?_
      refine tm_goto 58 rfl dX10_count_26 ?_
      exact tm_iret (by unfold cntA; first | rw [if_pos h1] | rw [if_neg h1, if_pos h16] | rw [if_neg h1, if_neg h16, if_pos h31] | rw [if_neg h1, if_neg h16, if_neg h31, if_pos h46] | rw [if_neg h1, if_neg h16, if_neg h31, if_neg h46]) rfl rfl dX10_count_58
  · refine tm_aload_0 5 rfl dX10_count_4 ?_
    refine tm_getr fl_X10_11 rfl rfl 8 rfl dX10_count_5 ?_
    refine tm_bipush (8) (by decide) 10 rfl dX10_count_8 ?_
    refine tm_ald rfl (ix := 8) ⟨by decide, by decide, by decide⟩ 11 rfl dX10_count_10 ?_
    refine tm_goto 58 rfl dX10_count_11 ?_
    exact tm_iret (by unfold cntA; first | rw [if_pos h1] | rw [if_neg h1, if_pos h16] | rw [if_neg h1, if_neg h16, if_pos h31] | rw [if_neg h1, if_neg h16, if_neg h31, if_pos h46] | rw [if_neg h1, if_neg h16, if_neg h31, if_neg h46]) rfl rfl dX10_count_58

def fdK (s : Nat) (x : Int32) : Nat := if inN x 128 = false then 2 else if s < 100 then 3 else 4
theorem fdK_2 {s : Nat} {x : Int32} (h : inN x 128 = false) : fdK s x = 2 := if_pos h
theorem fdK_3 {s : Nat} {x : Int32} (h : inN x 128 = true) (h2 : s < 100) : fdK s x = 3 := by unfold fdK; rw [if_neg (by rw [h]; decide), if_pos h2]
theorem fdK_4 {s : Nat} {x : Int32} (h : inN x 128 = true) (h2 : ¬ s < 100) : fdK s x = 4 := by unfold fdK; rw [if_neg (by rw [h]; decide), if_neg h2]
def fdC (M : MI) (s : Nat) (x : Int32) (k : Nat) : MI := if k = 3 then s1 (s1 M 24 s x) 23 1 (nI (s + 1)) else M
def fdM (M : MI) (s : Nat) (x : Int32) (k : Nat) : MI := if k = 3 then s1 (s1 M 61 s x) 54 9 (nI (s + 1)) else M
theorem in128 {x : Int32} (h : ¬ x < 0) (h2 : x ≤ 127) : inN x 128 = true := cod_c1 (N := 128) h h2 (by decide) (by decide)
theorem in128n {x : Int32} (h2 : ¬ x ≤ 127) : inN x 128 = false := cod_c2 (N := 128) h2 (by decide) (by decide)
set_option maxRecDepth 100000 in
set_option maxHeartbeats 4000000 in
theorem c_X5_append {g : GC} {d : Nat} {M : MI} {L : ML} {s : Nat} (hs : M 23 1 = nI s) (hsn : s ≤ 100) {x : Int32} : CfI g (d) yX5_append cX5_append 2 .boolean [rf g 23, .int x] M L (bI (decide (s < 100))) (if s < 100 then s1 (s1 M 24 s x) 23 1 (nI (s + 1)) else M) (L) := by
  refine cfI_of (own := RX5) (l := [some (rf g 23), some (.int x)]) 0 rfl rfl rfl (Nat.le_of_ble_eq_true rfl) ?_
  refine tm_aload_0 1 rfl dX5_append_0 ?_
  refine tm_geti fl_X5_13 rfl rfl 4 rfl dX5_append_1 ?_
  rw [hs]
  refine tm_bipush (100) (by decide) 6 rfl dX5_append_4 ?_
  refine tm_icmp_lt 11 9 rfl rfl dX5_append_6 (fun h6 => ?_) (fun h6 => ?_)
  · refine tm_aload_0 12 rfl dX5_append_11 ?_
    refine tm_getr fl_X5_9 rfl rfl 15 rfl dX5_append_12 ?_
    refine tm_aload_0 16 rfl dX5_append_15 ?_
    refine tm_geti fl_X5_13 rfl rfl 19 rfl dX5_append_16 ?_
    rw [hs]
    refine tm_iload_1 20 rfl dX5_append_19 ?_
    refine tm_ast rfl (ix := s) (ix_nI (sg_lt (n := 100) (by decide) hsn h6) (by decide)) 21 rfl dX5_append_20 ?_
    refine tm_aload_0 22 rfl dX5_append_21 ?_
    refine tm_dup rfl 23 rfl dX5_append_22 ?_
    refine tm_geti fl_X5_13 rfl rfl 26 rfl dX5_append_23 ?_
    rw [s1_ne (by decide), hs]
    refine tm_iconst (1) rfl 27 rfl dX5_append_26 ?_
    refine tm_iadd 28 rfl dX5_append_27 ?_
    rw [nI_1]
    refine tm_puti fl_X5_13 fw_4_1 rfl rfl rfl rfl 31 rfl dX5_append_28 ?_
    refine tm_iconst (1) rfl 32 rfl dX5_append_31 ?_
    exact tm_zret (by decide) (by rw [decide_eq_true (sg_lt (n := 100) (by decide) hsn h6)]; rfl) (by rw [if_pos (sg_lt (n := 100) (by decide) hsn h6)]) rfl dX5_append_32
  · refine tm_iconst (0) rfl 10 rfl dX5_append_9 ?_
    exact tm_zret (by decide) (by rw [decide_eq_false (sg_ge (n := 100) (by decide) hsn h6)]; rfl) (by rw [if_neg (sg_ge (n := 100) (by decide) hsn h6)]) rfl dX5_append_10

set_option maxRecDepth 100000 in
set_option maxHeartbeats 4000000 in
theorem c_X9_feed {g : GC} {d : Nat} {M : MI} {L : ML} {s : Nat} (hs : M 23 1 = nI s) (hsn : s ≤ 100) {x : Int32} : CfI g (d + 1) yX9_feed cX9_feed 2 .int [rf g 0, .int x] M L (adA s (fdK s x)) (fdC M s x (fdK s x)) (L) := by
  refine cfI_of (own := RX9) (l := [some (rf g 0), some (.int x)]) 0 rfl rfl rfl (Nat.le_of_ble_eq_true rfl) ?_
  refine tm_iload_1 1 rfl dX9_feed_0 ?_
  refine tm_if_lt 10 4 rfl rfl dX9_feed_1 (fun h1 => ?_) (fun h1 => ?_)
  · refine tm_bipush (-2) (by decide) 12 rfl dX9_feed_10 ?_
    exact tm_iret (by first | (rw [fdK_2 (cod_c3 h1)]; rfl) | (rw [fdK_2 (in128n h7)]; rfl)) (by first | (rw [fdK_2 (cod_c3 h1)]; rfl) | (rw [fdK_2 (in128n h7)]; rfl)) rfl dX9_feed_12
  · refine tm_iload_1 5 rfl dX9_feed_4 ?_
    refine tm_bipush (127) (by decide) 7 rfl dX9_feed_5 ?_
    refine tm_icmp_le 13 10 rfl rfl dX9_feed_7 (fun h7 => ?_) (fun h7 => ?_)
    · refine tm_aload_0 14 rfl dX9_feed_13 ?_
      refine tm_getr fl_X9_28 rfl rfl 17 rfl dX9_feed_14 ?_
      refine tm_iload_1 18 rfl dX9_feed_17 ?_
      refine tm_callV_I (ci := 4) (c_X5_append hs hsn) mv_X5_append ml_X9_144 rfl rfl rfl rfl rfl (Nat.le_of_ble_eq_true rfl) 21 rfl dX9_feed_18 ?_
      refine tm_if_eqB 34 24 rfl rfl dX9_feed_21 (fun h21 => ?_) (fun h21 => ?_)
      · refine tm_bipush (-4) (by decide) 36 rfl dX9_feed_34 ?_
        exact tm_iret (by first | (rw [fdK_3 (in128 h1 h7) (of_decide_eq_true h21)]; rfl) | (rw [fdK_4 (in128 h1 h7) (of_decide_eq_false h21)]; first | rfl | exact if_neg (of_decide_eq_false h21))) (by first | (rw [fdK_3 (in128 h1 h7) (of_decide_eq_true h21)]; rfl) | (rw [fdK_4 (in128 h1 h7) (of_decide_eq_false h21)]; first | rfl | exact if_neg (of_decide_eq_false h21))) rfl dX9_feed_36
      · rw [if_pos (of_decide_eq_true h21)]
        refine tm_aload_0 25 rfl dX9_feed_24 ?_
        refine tm_getr fl_X9_28 rfl rfl 28 rfl dX9_feed_25 ?_
        refine tm_geti fl_X9_147 rfl rfl 31 rfl dX9_feed_28 ?_
        rw [s1_eq]
        refine tm_goto 36 rfl dX9_feed_31 ?_
        exact tm_iret (by first | (rw [fdK_3 (in128 h1 h7) (of_decide_eq_true h21)]; rfl) | (rw [fdK_4 (in128 h1 h7) (of_decide_eq_false h21)]; first | rfl | exact if_neg (of_decide_eq_false h21))) (by first | (rw [fdK_3 (in128 h1 h7) (of_decide_eq_true h21)]; rfl) | (rw [fdK_4 (in128 h1 h7) (of_decide_eq_false h21)]; first | rfl | exact if_neg (of_decide_eq_false h21))) rfl dX9_feed_36
    · refine tm_bipush (-2) (by decide) 12 rfl dX9_feed_10 ?_
      exact tm_iret (by first | (rw [fdK_2 (cod_c3 h1)]; rfl) | (rw [fdK_2 (in128n h7)]; rfl)) (by first | (rw [fdK_2 (cod_c3 h1)]; rfl) | (rw [fdK_2 (in128n h7)]; rfl)) rfl dX9_feed_12

set_option maxRecDepth 100000 in
set_option maxHeartbeats 4000000 in
theorem c_X10_feed {g : GC} {d : Nat} {M : MI} {L : ML} {s : Nat} (hs : M 54 9 = nI s) (hsn : s ≤ 100) {x : Int32} : CfI g (d + 1) yX10_feed cX10_feed 2 .int [rf g 54, .int x] M L (adA s (fdK s x)) (fdM M s x (fdK s x)) (L) := by
  refine cfI_of (own := RX10) (l := [some (rf g 54), some (.int x)]) 0 rfl rfl rfl (Nat.le_of_ble_eq_true rfl) ?_
  refine tm_iload_1 1 rfl dX10_feed_0 ?_
  refine tm_i2l 2 rfl dX10_feed_1 ?_
  refine tm_lconst 0 rfl 3 rfl dX10_feed_2 ?_
  refine tm_ldc2 kl_X10_179 6 rfl dX10_feed_3 ?_
  refine tm_callS_I (c_X10_in) ms_X10_in ml_X10_60 rfl rfl (Nat.le_of_ble_eq_true rfl) 9 rfl dX10_feed_6 ?_
  rw [btw_in (N := 128) rfl]
  refine tm_if_neB 15 12 rfl rfl dX10_feed_9 (fun h9 => ?_) (fun h9 => ?_)
  · refine tm_aload_0 16 rfl dX10_feed_15 ?_
    refine tm_geti fl_X10_181 rfl rfl 19 rfl dX10_feed_16 ?_
    rw [hs]
    refine tm_bipush (100) (by decide) 21 rfl dX10_feed_19 ?_
    refine tm_icmp_ne 27 24 rfl rfl dX10_feed_21 (fun h21 => ?_) (fun h21 => ?_)
    · refine tm_aload_0 28 rfl dX10_feed_27 ?_
      refine tm_getr fl_X10_31 rfl rfl 31 rfl dX10_feed_28 ?_
      refine tm_aload_0 32 rfl dX10_feed_31 ?_
      refine tm_geti fl_X10_181 rfl rfl 35 rfl dX10_feed_32 ?_
      rw [hs]
      refine tm_iload_1 36 rfl dX10_feed_35 ?_
      refine tm_ast rfl (ix := s) (ix_nI (ne_n (n := 100) (by decide) hsn h21) (by decide)) 37 rfl dX10_feed_36 ?_
      refine tm_aload_0 38 rfl dX10_feed_37 ?_
      refine tm_dup rfl 39 rfl dX10_feed_38 ?_
      refine tm_geti fl_X10_181 rfl rfl 42 rfl dX10_feed_39 ?_
      rw [s1_ne (by decide), hs]
      refine tm_iconst (1) rfl 43 rfl dX10_feed_42 ?_
      refine tm_iadd 44 rfl dX10_feed_43 ?_
      rw [nI_1]
      refine tm_puti fl_X10_181 fw_9_9 rfl rfl rfl rfl 47 rfl dX10_feed_44 ?_
      refine tm_aload_0 48 rfl dX10_feed_47 ?_
      refine tm_geti fl_X10_181 rfl rfl 51 rfl dX10_feed_48 ?_
      rw [s1_eq]
      exact tm_iret (by rw [fdK_3 h9 (ne_n (n := 100) (by decide) hsn h21)]; rfl) (by rw [fdK_3 h9 (ne_n (n := 100) (by decide) hsn h21)]; rfl) rfl dX10_feed_51
    · refine tm_bipush (-4) (by decide) 26 rfl dX10_feed_24 ?_
      exact tm_iret (by rw [fdK_4 h9 (eq_n (n := 100) (by decide) hsn h21)]; rfl) (by rw [fdK_4 h9 (eq_n (n := 100) (by decide) hsn h21)]; rfl) rfl dX10_feed_26
  · refine tm_bipush (-2) (by decide) 14 rfl dX10_feed_12 ?_
    exact tm_iret (by rw [fdK_2 h9]; rfl) (by rw [fdK_2 h9]; rfl) rfl dX10_feed_14


theorem gtF_a {p p2 : Nat → Bool} {wt wt2 : Nat → Int32} {a a2 : Int32} {N : Nat} (hp : ∀ k, k < N → p k = p2 k) (hw : ∀ k, k < N → wt k = wt2 k) (h : ∃ k, k < N ∧ p k = true ∧ a.toInt < (wt k).toInt ∧ a2.toInt < (wt k).toInt) : gtF p wt a N = gtF p2 wt2 a2 N := by
  obtain ⟨x1, x2, x3⟩ := gtF_spec p wt a N
  obtain ⟨y1, y2, y3⟩ := gtF_spec p2 wt2 a2 N
  obtain ⟨k, k1, k2, k3, k4⟩ := h
  rw [fa_eq]
  have e1 := x1 k k1 k2
  have e2 := y1 k k1 (by rw [← hp k k1]; exact k2)
  rw [← hw k k1] at e2
  rcases x3 with q | ⟨u, u1, u2, u3⟩
  · rw [q] at e1; omega
  · rcases y3 with q | ⟨v, v1, v2, v3⟩
    · rw [q] at e2; omega
    · have f1 := y1 u u1 (by rw [← hp u u1]; exact u2)
      have f2 := x1 v v1 (by rw [hp v v1]; exact v2)
      rw [← hw u u1, ← u3] at f1
      rw [hw v v1, ← v3] at f2
      omega
theorem lsF_a {p p2 : Nat → Bool} {wt wt2 : Nat → Int32} {a a2 : Int32} {N : Nat} (hp : ∀ k, k < N → p k = p2 k) (hw : ∀ k, k < N → wt k = wt2 k) (h : ∃ k, k < N ∧ p k = true ∧ (wt k).toInt < a.toInt ∧ (wt k).toInt < a2.toInt) : lsF p wt a N = lsF p2 wt2 a2 N := by
  obtain ⟨x1, x2, x3⟩ := lsF_spec p wt a N
  obtain ⟨y1, y2, y3⟩ := lsF_spec p2 wt2 a2 N
  obtain ⟨k, k1, k2, k3, k4⟩ := h
  rw [fa_eq]
  have e1 := x1 k k1 k2
  have e2 := y1 k k1 (by rw [← hp k k1]; exact k2)
  rw [← hw k k1] at e2
  rcases x3 with q | ⟨u, u1, u2, u3⟩
  · rw [q] at e1; omega
  · rcases y3 with q | ⟨v, v1, v2, v3⟩
    · rw [q] at e2; omega
    · have f1 := y1 u u1 (by rw [← hp u u1]; exact u2)
      have f2 := x1 v v1 (by rw [hp v v1]; exact v2)
      rw [← hw u u1, ← u3] at f1
      rw [hw v v1, ← v3] at f2
      omega
theorem wt_j {n j k : Nat} {f : Nat → Int32} (h4 : n ≤ 4) (hk : k < 2 ^ n) (h : ∀ u, u < 4 → f u = zI (dg j u)) : wth f k 4 = wth (fun u => zI (dg j u)) k n ∧ -36 ≤ (wth f k 4).toInt ∧ (wth f k 4).toInt ≤ 36 := by
  have H := wth_I (w := f) (r := dg j) (k := k) (n := 4) (by omega) (fun v hv => ⟨by rw [h v hv]; exact zI_dg j v, by have := dg_rng j v; omega, by have := dg_rng j v; omega⟩)
  have e := wth_hi (w := f) hk (4 - n)
  rw [show n + (4 - n) = 4 by omega] at e
  refine ⟨?_, by omega, by omega⟩
  rw [e]
  exact wth_congr (fun v hv => h v (by omega))
theorem ne0_yes {N c : Nat} (hc : c < 2 ^ N) (h : ¬ c = 0) : ∃ k, k < N ∧ c.testBit k = true := by
  rcases Classical.em (∃ k, k < N ∧ c.testBit k = true) with q | q
  · exact q
  · exfalso
    apply h
    refine bits_ext hc (Nat.two_pow_pos _) (fun k hk => ?_)
    cases z : c.testBit k
    · simp
    · exact absurd ⟨k, hk, z⟩ q
theorem lq_c {n c j : Nat} {f : Nat → Int32} (h4 : n ≤ 4) (hc : c < 2 ^ 2 ^ n) (h : ∀ u, u < 4 → f u = zI (dg j u)) :
    (c = 0 → gtF (fun k => !c.testBit k) (fun k => wth f k 4) (-1000) (2 ^ n) + 1 = lqN n c j) ∧ (¬ c = 0 → lsF c.testBit (fun k => wth f k 4) 1000 (2 ^ n) = lqN n c j) := by
  constructor
  · intro h0
    unfold lqN
    rw [if_pos h0]
    congr 1
    refine gtF_a (fun k hk => by subst h0; simp) (fun k hk => (wt_j h4 hk h).1) ⟨0, Nat.two_pow_pos n, by subst h0; simp, ?_, ?_⟩
    · have := (wt_j (k := 0) h4 (Nat.two_pow_pos n) h).2.1
      have e : (-1000 : Int32).toInt = -1000 := rfl
      omega
    · have := (wt_j (k := 0) h4 (Nat.two_pow_pos n) h).2.1
      have e : (-99 : Int32).toInt = -99 := rfl
      omega
  · intro h0
    unfold lqN
    rw [if_neg h0]
    obtain ⟨k, hk, hb⟩ := ne0_yes hc h0
    refine lsF_a (fun k hk => rfl) (fun k hk => (wt_j h4 hk h).1) ⟨k, hk, hb, ?_, ?_⟩
    · have := (wt_j (k := k) h4 hk h).2.2
      have e : (1000 : Int32).toInt = 1000 := rfl
      omega
    · have := (wt_j (k := k) h4 hk h).2.2
      have e : (99 : Int32).toInt = 99 := rfl
      omega
theorem sbM_43 {M : MI} {n c v : Nat} (hv : v < 4) : sbM M n c 4 43 v = zI (loB n c v) := by
  unfold sbM; rw [sr_ne (by decide), sr_eq]; exact if_pos hv
theorem sbM_44 {M : MI} {n c v : Nat} (hv : v < 4) : sbM M n c 4 44 v = zI (hiB n c v) := by
  unfold sbM; rw [sr_eq]; exact if_pos hv
theorem sbM_41 {M : MI} {n c k : Nat} : sbM M n c k 41 = M 41 := by
  unfold sbM; rw [sr_ne (by decide), sr_ne (by decide)]
theorem thr_none {b : Option Nat} (h : nI (thr b) = 1000) : b = none := by
  cases b with
  | none => rfl
  | some j =>
    have := (nI_eq (by have := thr_le (some j); omega) (by decide)).mp (show nI (thr (some j)) = nI 1000 from h)
    have h2 := sm_le j
    have : sm j = 1000 := this
    omega
theorem thr_some {b : Option Nat} (h : ¬ nI (thr b) = 1000) : ∃ j, b = some j := by
  cases b with
  | none => exact absurd rfl h
  | some j => exact ⟨j, rfl⟩
set_option maxRecDepth 100000 in
set_option maxHeartbeats 4000000 in
theorem c_X3_balance {g : GC} {d : Nat} {M : MI} {L : ML} {n c : Nat} (h4 : n ≤ 4) (hc : c < 2 ^ 2 ^ n) : CrI g (d + 4) yX3_balance cX3_balance 3 .boolean [rf g 41, .int (nI n), .int (nI c)] M L (fun r M' L' => L' = L ∧ frS M M' ∧ r = bI (LR n c).isSome ∧ ∀ j, LR n c = some j → (∀ u, u < 4 → M' 42 u = zI (dg j u)) ∧ M' 41 1 = lqN n c j) := by
  have h65 := p65 h4
  refine crI_of (own := RX3) (l := [some (rf g 41), some (.int (nI n)), some (.int (nI c))]) 0 rfl rfl rfl (Nat.le_of_ble_eq_true rfl) ?_
  refine tm_aload_0 1 rfl dX3_balance_0 ?_
  refine tm_sipush (1000) (by decide) 4 rfl dX3_balance_1 ?_
  refine tm_puti fl_X3_28 fw_2_5 rfl rfl rfl rfl 7 rfl dX3_balance_4 ?_
  refine tm_aload_0 8 rfl dX3_balance_7 ?_
  refine tm_iload_1 9 rfl dX3_balance_8 ?_
  refine tm_iload_2 10 rfl dX3_balance_9 ?_
  refine tm_callVr_I (ci := 2) (c_X3_setBounds h4 hc) mv_X3_setBounds ml_X3_37 rfl rfl rfl rfl rfl (Nat.le_of_ble_eq_true rfl) 13 rfl dX3_balance_10 (fun F1 M1 L1 hq => ?_)
  obtain ⟨rfl, f1, hq⟩ := hq
  obtain ⟨b, rfl, hb1, hb2⟩ : ∃ b : Bool, F1 = bI b ∧ (b = true → M1 = sbM (s1 M 41 5 1000) n c 4 ∧ ∀ v, v < n → lsN n (opN n c) v = 0 ∨ lsN n c v = 0) ∧ (b = false → ∃ v, v < n ∧ ¬ lsN n (opN n c) v = 0 ∧ ¬ lsN n c v = 0) := by
    rcases hq with ⟨rfl, h1, h2⟩ | ⟨rfl, h⟩
    · exact ⟨true, rfl, fun _ => ⟨h1, h2⟩, fun q => absurd q (by decide)⟩
    · exact ⟨false, rfl, fun q => absurd q (by decide), fun _ => h⟩
  have f0 : frS M M1 := (frS.rf.s1 (i := 41) (by decide) (by decide) _ _).tr f1
  refine tm_if_neB 18 16 rfl rfl dX3_balance_13 (fun h13 => ?_) (fun h13 => ?_)
  · obtain ⟨hm, hno⟩ := hb1 h13
    refine tm_aload_0 19 rfl dX3_balance_18 ?_
    refine tm_iload_1 20 rfl dX3_balance_19 ?_
    refine tm_iload_2 21 rfl dX3_balance_20 ?_
    refine tm_callVr_V (ci := 2) (c_X3_tryAll h4 (by omega) (fun v hv => by rw [hm]; exact sbM_43 hv) (fun v hv => by rw [hm]; exact sbM_44 hv) ⟨by rw [hm, sbM_41, s1_eq]; rfl, fun j hj => by cases hj⟩) mv_X3_tryAll ml_X3_41 rfl rfl rfl rfl rfl (Nat.le_of_ble_eq_true rfl) 24 rfl dX3_balance_21 (fun M2 L2 hq2 => ?_)
    obtain ⟨rfl, f2, b2⟩ := hq2
    rw [lin_eq h4 hno] at b2
    have b2 : stC M2 (LR n c) := b2
    refine tm_aload_0 25 rfl dX3_balance_24 ?_
    refine tm_geti fl_X3_28 rfl rfl 28 rfl dX3_balance_25 ?_
    refine tm_sipush (1000) (by decide) 31 rfl dX3_balance_28 ?_
    rw [b2.1]
    refine tm_icmp_ne 36 34 rfl rfl dX3_balance_31 (fun h31 => ?_) (fun h31 => ?_)
    · obtain ⟨j, hj⟩ := thr_some h31
      have hw := b2.2 j hj
      have hlq := lq_c h4 hc hw
      refine tm_aload_0 37 rfl dX3_balance_36 ?_
      refine tm_aload_0 38 rfl dX3_balance_37 ?_
      refine tm_getr fl_X3_9 rfl rfl 41 rfl dX3_balance_38 ?_
      refine tm_iload_1 42 rfl dX3_balance_41 ?_
      refine tm_iload_2 43 rfl dX3_balance_42 ?_
      refine tm_callV_I (ci := 2) (c_X3_divides (j := 42) rfl (by decide) h4 (by omega)) mv_X3_divides ml_X3_45 rfl rfl rfl rfl rfl (Nat.le_of_ble_eq_true rfl) 46 rfl dX3_balance_43 ?_
      refine tm_pop rfl 47 rfl dX3_balance_46 ?_
      refine tm_aload_0 48 rfl dX3_balance_47 ?_
      refine tm_iload_2 49 rfl dX3_balance_48 ?_
      refine tm_join1 65 (lqN n c j) ?_ (fun hJ65 => ?_)
      · skip
        refine tm_puti fl_X3_15 fw_2_1 rfl rfl rfl rfl 68 rfl dX3_balance_65 ?_
        refine tm_iconst (1) rfl 69 rfl dX3_balance_68 ?_
        exact tm_zretR (by decide) ⟨rfl, ((f0.tr f2).tr (dvM_fr _ _ _ _)).s1 (by decide) (by decide) _ _, by rw [hj]; rfl, fun i hi => by rw [hj] at hi; cases hi; exact ⟨fun u hu => by rw [s1_ne (by decide), dvM_ne (by decide)]; exact hw u hu, s1_eq _ _ _ _⟩⟩ dX3_balance_69
      · refine tm_if_ne 61 52 rfl rfl dX3_balance_49 (fun h49 => ?_) (fun h49 => ?_)
        · refine tm_aload_0 62 rfl dX3_balance_61 ?_
          refine tm_geti fl_X3_31 rfl rfl 65 rfl dX3_balance_62 ?_
          exact tm_top (by first | exact (hlq.2 (fun q => h49 (by rw [q]; rfl))).symm.trans (dvM_6 _ _ _ _).symm | exact (hlq.1 ((nI_z (by omega)).mp h49)).symm) hJ65
        · refine tm_aload_0 53 rfl dX3_balance_52 ?_
          refine tm_geti fl_X3_34 rfl rfl 56 rfl dX3_balance_53 ?_
          rw [dvM_7]
          refine tm_iconst (1) rfl 57 rfl dX3_balance_56 ?_
          refine tm_iadd 58 rfl dX3_balance_57 ?_
          refine tm_goto 65 rfl dX3_balance_58 ?_
          exact tm_top (by first | exact (hlq.2 (fun q => h49 (by rw [q]; rfl))).symm.trans (dvM_6 _ _ _ _).symm | exact (hlq.1 ((nI_z (by omega)).mp h49)).symm) hJ65
    · refine tm_iconst (0) rfl 35 rfl dX3_balance_34 ?_
      exact tm_zretR (by decide) ⟨rfl, f0.tr f2, by rw [thr_none h31]; rfl, fun j hj => by rw [thr_none h31] at hj; cases hj⟩ dX3_balance_35
  · refine tm_iconst (0) rfl 17 rfl dX3_balance_16 ?_
    exact tm_zretR (by decide) ⟨rfl, f0, by obtain ⟨v, hv, h1, h2⟩ := hb2 h13; rw [show LR n c = none from lin_no h4 hv h1 h2]; rfl, fun j hj => by obtain ⟨v, hv, h1, h2⟩ := hb2 h13; rw [show LR n c = none from lin_no h4 hv h1 h2] at hj; cases hj⟩ dX3_balance_17

/-- weights and quota become least ones -/
def opLstO (σ : AS) (b : Option Nat) : Int32 × AS := match b with
  | none => (-3, σ)
  | some j => (lqN σ.1 σ.2.1 j + 100, (σ.1, σ.2.1, σ.2.2.1, (fun v => if v < 4 then zI (dg j v) else 0), lqN σ.1 σ.2.1 j))
def opLst (σ : AS) : Int32 × AS := opLstO σ (LR σ.1 σ.2.1)
def opBec (σ : AS) (x : Int32) : Int32 × AS := if x = 0 then opDua σ else if x = 1 then opOpp σ else if x = 2 then opLst σ else (-1, σ)
theorem lst_n {σ : AS} (h : LR σ.1 σ.2.1 = none) : opLst σ = (-3, σ) := (congrArg (opLstO σ) h).trans rfl
theorem lst_s {σ : AS} {j : Nat} (h : LR σ.1 σ.2.1 = some j) : opLst σ = (lqN σ.1 σ.2.1 j + 100, (σ.1, σ.2.1, σ.2.2.1, (fun v => if v < 4 then zI (dg j v) else 0), lqN σ.1 σ.2.1 j)) := (congrArg (opLstO σ) h).trans rfl
theorem LR_dg {n c j : Nat} (h : LR n c = some j) : (∀ v, v < 4 → n ≤ v → dg j v = 0) ∧ tlB n c (dg j) = true := by
  rcases bst_spec (P1 n c) 6561 with ⟨a1, -⟩ | ⟨i, a1, a2, a3, -⟩
  · unfold LR at h; rw [a1] at h; cases h
  · unfold LR at h
    rw [a1] at h
    cases h
    exact P1_iff.mp a3
theorem isS {b : Option Nat} (h : b.isSome = true) : ∃ j, b = some j := by
  cases b with
  | none => cases h
  | some j => exact ⟨j, rfl⟩
theorem isN {b : Option Nat} (h : b.isSome = false) : b = none := by
  cases b with
  | none => rfl
  | some j => cases h
theorem hasC.fr {M M' : MI} {σ : AS} (h : hasC M σ) (f : ∀ i k, i ≤ 2 → M' i k = M i k) : hasC M' σ := ⟨by rw [f 1 0 (by decide)]; exact h.1, by rw [f 1 1 (by decide)]; exact h.2.1, by rw [f 1 2 (by decide)]; exact h.2.2.1, by rw [f 1 4 (by decide)]; exact h.2.2.2.1, fun v hv => by rw [f 2 v (by decide)]; exact h.2.2.2.2 v hv⟩
theorem frS.lo {M M' : MI} (h : frS M M') : ∀ i k, i ≤ 2 → M' i k = M i k := fun i k q => h i k (by omega)
theorem lst_put {M : MI} {σ : AS} {j : Nat} {x : Int32} (h : hasC M σ) (hw : ∀ u, u < 4 → M 42 u = zI (dg j u)) : s1 (cpR M 42 2 4) 1 4 x = putC M (σ.1, σ.2.1, σ.2.2.1, (fun v => if v < 4 then zI (dg j v) else 0), x) := by
  refine putC_eq ⟨?_, ?_, ?_, ?_, fun v hv => ?_⟩ (fun i h1 h2 => by rw [s1_ne h1, cpR_ne h2]) (fun k _ _ _ h4 => by rw [s1_nk h4, cpR_ne (by decide)]) (fun k hk => ?_)
  · rw [s1_nk (by decide), cpR_ne (by decide)]; exact h.1
  · rw [s1_nk (by decide), cpR_ne (by decide)]; exact h.2.1
  · rw [s1_nk (by decide), cpR_ne (by decide)]; exact h.2.2.1
  · exact s1_eq _ _ _ _
  · rw [s1_ne (by decide), cpR_at hv, hw v hv]; exact (if_pos hv).symm
  · rw [s1_ne (by decide)]
    unfold cpR
    rw [sr_eq]
    exact if_neg (by omega)
set_option maxRecDepth 100000 in
set_option maxHeartbeats 4000000 in
theorem c_X9_takeLeastWeights {g : GC} {d : Nat} {M : MI} {L : ML} {σ : AS} (hC : hasC M σ) (hσ : okS σ) : CrI g (d + 5) yX9_takeLeastWeights cX9_takeLeastWeights 1 .int [rf g 0] M L (fun r M' L' => L' = L ∧ r = (opLst σ).1 ∧ ∃ M1, frS M M1 ∧ M' = putC M1 (opLst σ).2) := by
  have hn := hC.1
  have h4 := hσ.2.1
  have h16 := pow4 h4
  have hp1 := Nat.two_pow_pos σ.1
  have hc := okp hσ
  refine crI_of (own := RX9) (l := [some (rf g 0)]) 0 rfl rfl rfl (Nat.le_of_ble_eq_true rfl) ?_
  refine tm_aload_0 1 rfl dX9_takeLeastWeights_0 ?_
  refine tm_getr fl_X9_41 rfl rfl 4 rfl dX9_takeLeastWeights_1 ?_
  refine tm_aload_0 5 rfl dX9_takeLeastWeights_4 ?_
  refine tm_getr fl_X9_12 rfl rfl 8 rfl dX9_takeLeastWeights_5 ?_
  refine tm_geti fl_X9_67 rfl rfl 11 rfl dX9_takeLeastWeights_8 ?_
  rw [hn]
  refine tm_aload_0 12 rfl dX9_takeLeastWeights_11 ?_
  refine tm_getr fl_X9_12 rfl rfl 15 rfl dX9_takeLeastWeights_12 ?_
  refine tm_geti fl_X9_82 rfl rfl 18 rfl dX9_takeLeastWeights_15 ?_
  rw [hC.2.1]
  refine tm_callVr_I (ci := 2) (c_X3_balance h4 hσ.2.2.1) mv_X3_balance ml_X9_124 rfl rfl rfl rfl rfl (Nat.le_of_ble_eq_true rfl) 21 rfl dX9_takeLeastWeights_18 (fun F1 M1 L1 hq => ?_)
  obtain ⟨rfl, f1, rfl, hj⟩ := hq
  have hC1 : hasC M1 σ := hC.fr f1.lo
  refine tm_if_neB 27 24 rfl rfl dX9_takeLeastWeights_21 (fun h21 => ?_) (fun h21 => ?_)
  · obtain ⟨j, hjj⟩ := isS h21
    obtain ⟨hw, hq⟩ := hj j hjj
    refine tm_aload_0 28 rfl dX9_takeLeastWeights_27 ?_
    refine tm_getr fl_X9_41 rfl rfl 31 rfl dX9_takeLeastWeights_28 ?_
    refine tm_getr fl_X9_128 rfl rfl 34 rfl dX9_takeLeastWeights_31 ?_
    refine tm_aload_0 35 rfl dX9_takeLeastWeights_34 ?_
    refine tm_getr fl_X9_12 rfl rfl 38 rfl dX9_takeLeastWeights_35 ?_
    refine tm_getr fl_X9_101 rfl rfl 41 rfl dX9_takeLeastWeights_38 ?_
    refine tm_callS_V (c_X4_copyRow (n := 4) rfl rfl (by decide)) ms_X4_copyRow ml_X9_129 rfl rfl (Nat.le_of_ble_eq_true rfl) 44 rfl dX9_takeLeastWeights_41 ?_
    refine tm_aload_0 45 rfl dX9_takeLeastWeights_44 ?_
    refine tm_getr fl_X9_12 rfl rfl 48 rfl dX9_takeLeastWeights_45 ?_
    refine tm_aload_0 49 rfl dX9_takeLeastWeights_48 ?_
    refine tm_getr fl_X9_41 rfl rfl 52 rfl dX9_takeLeastWeights_49 ?_
    refine tm_geti fl_X9_133 rfl rfl 55 rfl dX9_takeLeastWeights_52 ?_
    rw [cpR_ne (by decide), hq]
    refine tm_puti fl_X9_105 fw_3_4 rfl rfl rfl rfl 58 rfl dX9_takeLeastWeights_55 ?_
    rw [lst_put hC1 hw]
    refine tm_aload_0 59 rfl dX9_takeLeastWeights_58 ?_
    refine tm_getr fl_X9_12 rfl rfl 62 rfl dX9_takeLeastWeights_59 ?_
    refine tm_geti fl_X9_105 rfl rfl 65 rfl dX9_takeLeastWeights_62 ?_
    rw [putC_1]
    refine tm_bipush (100) (by decide) 67 rfl dX9_takeLeastWeights_65 ?_
    refine tm_iadd 68 rfl dX9_takeLeastWeights_67 ?_
    exact tm_iretR ⟨rfl, by rw [lst_s hjj]; rfl, M1, f1, by rw [lst_s hjj]⟩ dX9_takeLeastWeights_68
  · refine tm_bipush (-3) (by decide) 26 rfl dX9_takeLeastWeights_24 ?_
    exact tm_iretR ⟨rfl, by rw [lst_n (isN h21)], M1, f1, by rw [lst_n (isN h21)]; exact (putC_self hC1).symm⟩ dX9_takeLeastWeights_26

set_option maxRecDepth 100000 in
set_option maxHeartbeats 4000000 in
theorem c_X9_becomes2 {g : GC} {d : Nat} {M : MI} {L : ML} {σ : AS} (hC : hasC M σ) (hσ : okS σ) : CrI g (d + 6) yX9_becomes cX9_becomes 2 .int [rf g 0, .int 2] M L (fun r M' L' => L' = L ∧ r = (opLst σ).1 ∧ ∃ M1, frS M M1 ∧ M' = putC M1 (opLst σ).2) := by
  refine crI_of (own := RX9) (l := [some (rf g 0), some (.int 2)]) 0 rfl rfl rfl (Nat.le_of_ble_eq_true rfl) ?_
  refine tm_iload_1 1 rfl dX9_becomes_0 ?_
  refine tm_swIn (off := 77) 78 (by decide) (by decide) (by decide +kernel) rfl dX9_becomes_1 ?_
  refine tm_aload_0 79 rfl dX9_becomes_78 ?_
  refine tm_callVr_I (ci := 8) (c_X9_takeLeastWeights hC hσ) mv_X9_takeLeastWeights ml_X9_121 rfl rfl rfl rfl rfl (Nat.le_of_ble_eq_true rfl) 82 rfl dX9_becomes_79 (fun F1 M1 L1 hq => ?_)
  exact tm_iretR hq dX9_becomes_82

theorem fr_put {M M1 : MI} {σ : AS} (hC : hasC M σ) (f : frS M M1) : ∃ M2, frS M M2 ∧ M1 = putC M2 σ := ⟨M1, f, (putC_self (hC.fr f.lo)).symm⟩
def ansWOf (σ : AS) (v x : Int32) : Int32 := if inN v σ.1 = false ∨ inN x 2 = false then -1 else if x = 0 then σ.2.2.2.1 (iN v) + 100 else match LR σ.1 σ.2.1 with
  | none => -3
  | some j => zI (dg j (iN v)) + 100
theorem wof_1 {σ : AS} {v x : Int32} (h : inN v σ.1 = false ∨ inN x 2 = false) : ansWOf σ v x = -1 := by unfold ansWOf; rw [if_pos h]
theorem wof_2 {σ : AS} {k : Nat} (hk : k < 2 ^ 31) (h : inN (nI k) σ.1 = true) : ansWOf σ (nI k) 0 = σ.2.2.2.1 k + 100 := by
  unfold ansWOf
  rw [if_neg (by rw [h]; decide), if_pos rfl, iN_nI hk]
theorem wof_3 {σ : AS} {k : Nat} (h : inN (nI k) σ.1 = true) (hl : LR σ.1 σ.2.1 = none) : ansWOf σ (nI k) 1 = -3 := by
  unfold ansWOf
  rw [if_neg (by rw [h]; decide), if_neg (by decide), hl]
theorem wof_4 {σ : AS} {k j : Nat} (hk : k < 2 ^ 31) (h : inN (nI k) σ.1 = true) (hl : LR σ.1 σ.2.1 = some j) : ansWOf σ (nI k) 1 = zI (dg j k) + 100 := by
  unfold ansWOf
  rw [if_neg (by rw [h]; decide), if_neg (by decide), hl, iN_nI hk]
def ansLeastO (σ : AS) (b : Option Nat) : Int32 := match b with
  | none => -3
  | some j => lqN σ.1 σ.2.1 j + 100
def ansLeast (σ : AS) : Int32 := ansLeastO σ (LR σ.1 σ.2.1)
theorem lea_1 {σ : AS} (hl : LR σ.1 σ.2.1 = none) : ansLeast σ = -3 := (congrArg (ansLeastO σ) hl).trans rfl
theorem lea_2 {σ : AS} {j : Nat} (hl : LR σ.1 σ.2.1 = some j) : ansLeast σ = lqN σ.1 σ.2.1 j + 100 := (congrArg (ansLeastO σ) hl).trans rfl
theorem in2_c {x : Int32} (h : ¬ x < 0) (h2 : x ≤ 1) : inN x 2 = true := by
  rw [fa_lt] at h
  rw [fa_le] at h2
  exact decide_eq_true ⟨by have : (0 : Int32).toInt = 0 := rfl; omega, by have : (1 : Int32).toInt = 1 := rfl; omega⟩
theorem in2_d {x : Int32} (h2 : ¬ x ≤ 1) : inN x 2 = false := by
  rw [fa_le] at h2
  exact decide_eq_false (fun q => by have : (1 : Int32).toInt = 1 := rfl; omega)
set_option maxRecDepth 100000 in
set_option maxHeartbeats 4000000 in
theorem c_X9_weightOf {g : GC} {d : Nat} {M : MI} {L : ML} {σ : AS} (hC : hasC M σ) (hσ : okS σ) {v x : Int32} : CrI g (d + 5) yX9_weightOf cX9_weightOf 3 .int [rf g 0, .int v, .int x] M L (fun r M' L' => L' = L ∧ r = ansWOf σ v x ∧ frS M M') := by
  have hn := hC.1
  have h4 := hσ.2.1
  have h16 := pow4 h4
  have hp1 := Nat.two_pow_pos σ.1
  have hc := okp hσ
  refine crI_of (own := RX9) (l := [some (rf g 0), some (.int v), some (.int x)]) 0 rfl rfl rfl (Nat.le_of_ble_eq_true rfl) ?_
  refine tm_aload_0 1 rfl dX9_weightOf_0 ?_
  refine tm_getr fl_X9_12 rfl rfl 4 rfl dX9_weightOf_1 ?_
  refine tm_iload_1 5 rfl dX9_weightOf_4 ?_
  refine tm_callV_I (ci := 3) (c_X4_hasVoter hC hσ) mv_X4_hasVoter ml_X9_98 rfl rfl rfl rfl rfl (Nat.le_of_ble_eq_true rfl) 8 rfl dX9_weightOf_5 ?_
  refine tm_if_eqB 20 11 rfl rfl dX9_weightOf_8 (fun h8 => ?_) (fun h8 => ?_)
  · refine tm_iconst (-1) rfl 21 rfl dX9_weightOf_20 ?_
    exact tm_iretR ⟨rfl, (by first | exact (wof_1 (Or.inl h8)).symm | exact (wof_1 (Or.inr (cod_c3 h12))).symm | exact (wof_1 (Or.inr (in2_d h17))).symm), frS.rf⟩ dX9_weightOf_21
  · refine tm_iload_2 12 rfl dX9_weightOf_11 ?_
    refine tm_if_lt 20 15 rfl rfl dX9_weightOf_12 (fun h12 => ?_) (fun h12 => ?_)
    · refine tm_iconst (-1) rfl 21 rfl dX9_weightOf_20 ?_
      exact tm_iretR ⟨rfl, (by first | exact (wof_1 (Or.inl h8)).symm | exact (wof_1 (Or.inr (cod_c3 h12))).symm | exact (wof_1 (Or.inr (in2_d h17))).symm), frS.rf⟩ dX9_weightOf_21
    · refine tm_iload_2 16 rfl dX9_weightOf_15 ?_
      refine tm_iconst (1) rfl 17 rfl dX9_weightOf_16 ?_
      refine tm_icmp_le 22 20 rfl rfl dX9_weightOf_17 (fun h17 => ?_) (fun h17 => ?_)
      · obtain ⟨k, hk, rfl⟩ := inN_of h8
        obtain ⟨b, rfl⟩ := in2_of (in2_c h12 h17)
        refine tm_iload_2 23 rfl dX9_weightOf_22 ?_
        refine tm_if_ne 39 26 rfl rfl dX9_weightOf_23 (fun h23 => ?_) (fun h23 => ?_)
        · skip
          refine tm_aload_0 40 rfl dX9_weightOf_39 ?_
          refine tm_getr fl_X9_41 rfl rfl 43 rfl dX9_weightOf_40 ?_
          refine tm_aload_0 44 rfl dX9_weightOf_43 ?_
          refine tm_getr fl_X9_12 rfl rfl 47 rfl dX9_weightOf_44 ?_
          refine tm_geti fl_X9_67 rfl rfl 50 rfl dX9_weightOf_47 ?_
          rw [hn]
          refine tm_aload_0 51 rfl dX9_weightOf_50 ?_
          refine tm_getr fl_X9_12 rfl rfl 54 rfl dX9_weightOf_51 ?_
          refine tm_geti fl_X9_82 rfl rfl 57 rfl dX9_weightOf_54 ?_
          rw [hC.2.1]
          refine tm_callVr_I (ci := 2) (c_X3_balance h4 hσ.2.2.1) mv_X3_balance ml_X9_124 rfl rfl rfl rfl rfl (Nat.le_of_ble_eq_true rfl) 60 rfl dX9_weightOf_57 (fun F1 M1 L1 hq => ?_)
          obtain ⟨rfl, f1, rfl, hj⟩ := hq
          refine tm_if_eqB 78 63 rfl rfl dX9_weightOf_60 (fun h60 => ?_) (fun h60 => ?_)
          · refine tm_bipush (-3) (by decide) 80 rfl dX9_weightOf_78 ?_
            exact tm_iretR ⟨rfl, (by first | rw [show bI b = 1 from by rw [(bI_n0 b).mp h23]; rfl, wof_3 h8 (isN h60)] | rw [show bI b = 1 from by rw [(bI_n0 b).mp h23]; rfl, wof_4 (by omega) h8 hjj]), f1⟩ dX9_weightOf_80
          · obtain ⟨j, hjj⟩ := isS h60
            obtain ⟨hw, hq⟩ := hj j hjj
            refine tm_aload_0 64 rfl dX9_weightOf_63 ?_
            refine tm_getr fl_X9_41 rfl rfl 67 rfl dX9_weightOf_64 ?_
            refine tm_getr fl_X9_128 rfl rfl 70 rfl dX9_weightOf_67 ?_
            refine tm_iload_1 71 rfl dX9_weightOf_70 ?_
            refine tm_ald rfl (ix := k) (ix_nI (by omega) (by decide)) 72 rfl dX9_weightOf_71 ?_
            rw [hw k (by omega)]
            refine tm_bipush (100) (by decide) 74 rfl dX9_weightOf_72 ?_
            refine tm_iadd 75 rfl dX9_weightOf_74 ?_
            refine tm_goto 80 rfl dX9_weightOf_75 ?_
            exact tm_iretR ⟨rfl, (by first | rw [show bI b = 1 from by rw [(bI_n0 b).mp h23]; rfl, wof_3 h8 (isN h60)] | rw [show bI b = 1 from by rw [(bI_n0 b).mp h23]; rfl, wof_4 (by omega) h8 hjj]), f1⟩ dX9_weightOf_80
        · refine tm_aload_0 27 rfl dX9_weightOf_26 ?_
          refine tm_getr fl_X9_12 rfl rfl 30 rfl dX9_weightOf_27 ?_
          refine tm_getr fl_X9_101 rfl rfl 33 rfl dX9_weightOf_30 ?_
          refine tm_iload_1 34 rfl dX9_weightOf_33 ?_
          refine tm_ald rfl (ix := k) (ix_nI (by omega) (by decide)) 35 rfl dX9_weightOf_34 ?_
          rw [hC.2.2.2.2 k (by omega)]
          refine tm_bipush (100) (by decide) 37 rfl dX9_weightOf_35 ?_
          refine tm_iadd 38 rfl dX9_weightOf_37 ?_
          exact tm_iretR ⟨rfl, by rw [h23, wof_2 (by omega) h8], frS.rf⟩ dX9_weightOf_38
      · refine tm_iconst (-1) rfl 21 rfl dX9_weightOf_20 ?_
        exact tm_iretR ⟨rfl, (by first | exact (wof_1 (Or.inl h8)).symm | exact (wof_1 (Or.inr (cod_c3 h12))).symm | exact (wof_1 (Or.inr (in2_d h17))).symm), frS.rf⟩ dX9_weightOf_21

set_option maxRecDepth 100000 in
set_option maxHeartbeats 4000000 in
theorem c_X9_least {g : GC} {d : Nat} {M : MI} {L : ML} {σ : AS} (hC : hasC M σ) (hσ : okS σ) : CrI g (d + 5) yX9_least cX9_least 1 .int [rf g 0] M L (fun r M' L' => L' = L ∧ r = ansLeast σ ∧ frS M M') := by
  have hn := hC.1
  have h4 := hσ.2.1
  have h16 := pow4 h4
  have hp1 := Nat.two_pow_pos σ.1
  have hc := okp hσ
  refine crI_of (own := RX9) (l := [some (rf g 0)]) 0 rfl rfl rfl (Nat.le_of_ble_eq_true rfl) ?_
  refine tm_aload_0 1 rfl dX9_least_0 ?_
  refine tm_getr fl_X9_41 rfl rfl 4 rfl dX9_least_1 ?_
  refine tm_aload_0 5 rfl dX9_least_4 ?_
  refine tm_getr fl_X9_12 rfl rfl 8 rfl dX9_least_5 ?_
  refine tm_geti fl_X9_67 rfl rfl 11 rfl dX9_least_8 ?_
  rw [hn]
  refine tm_aload_0 12 rfl dX9_least_11 ?_
  refine tm_getr fl_X9_12 rfl rfl 15 rfl dX9_least_12 ?_
  refine tm_geti fl_X9_82 rfl rfl 18 rfl dX9_least_15 ?_
  rw [hC.2.1]
  refine tm_callVr_I (ci := 2) (c_X3_balance h4 hσ.2.2.1) mv_X3_balance ml_X9_124 rfl rfl rfl rfl rfl (Nat.le_of_ble_eq_true rfl) 21 rfl dX9_least_18 (fun F1 M1 L1 hq => ?_)
  obtain ⟨rfl, f1, rfl, hj⟩ := hq
  refine tm_if_eqB 37 24 rfl rfl dX9_least_21 (fun h21 => ?_) (fun h21 => ?_)
  · refine tm_bipush (-3) (by decide) 39 rfl dX9_least_37 ?_
    exact tm_iretR ⟨rfl, (by first | exact (lea_1 (isN h21)).symm | exact (lea_2 hjj).symm), f1⟩ dX9_least_39
  · obtain ⟨j, hjj⟩ := isS h21
    obtain ⟨hw, hq⟩ := hj j hjj
    refine tm_aload_0 25 rfl dX9_least_24 ?_
    refine tm_getr fl_X9_41 rfl rfl 28 rfl dX9_least_25 ?_
    refine tm_geti fl_X9_133 rfl rfl 31 rfl dX9_least_28 ?_
    rw [hq]
    refine tm_bipush (100) (by decide) 33 rfl dX9_least_31 ?_
    refine tm_iadd 34 rfl dX9_least_33 ?_
    refine tm_goto 39 rfl dX9_least_34 ?_
    exact tm_iretR ⟨rfl, (by first | exact (lea_1 (isN h21)).symm | exact (lea_2 hjj).symm), f1⟩ dX9_least_39

theorem hasM.fr {M M' : MI} {σ : AS} (h : hasM M σ) (f : frM M M') : hasM M' σ := by
  have e : M' 55 = M 55 := f.row (by decide) (by decide) (by decide)
  unfold hasM
  rw [e]
  exact h
set_option maxRecDepth 100000 in
set_option maxHeartbeats 4000000 in
theorem c_X10_weightOf {g : GC} {d : Nat} {M : MI} {L : ML} {σ : AS} (hM : hasM M σ) (hσ : okS σ) {v x : Int32} : CrI g (d + 8) yX10_weightOf cX10_weightOf 3 .int [rf g 54, .int v, .int x] M L (fun r M' L' => L' = L ∧ r = ansWOf σ v x ∧ frM M M') := by
  have hn := hM.1
  have h4 := hσ.2.1
  have h16 := pow4 h4
  have hp1 := Nat.two_pow_pos σ.1
  have hc := okp hσ
  refine crI_of (own := RX10) (l := [some (rf g 54), some (.int v), some (.int x)]) 0 rfl rfl rfl (Nat.le_of_ble_eq_true rfl) ?_
  refine tm_aload_0 1 rfl dX10_weightOf_0 ?_
  refine tm_iload_1 2 rfl dX10_weightOf_1 ?_
  refine tm_callV_I (ci := 9) (c_X10_isVoter hn h4 (by have := hσ.1; omega)) mv_X10_isVoter ml_X10_75 rfl rfl rfl rfl rfl (Nat.le_of_ble_eq_true rfl) 5 rfl dX10_weightOf_2 ?_
  refine tm_if_eqB 18 8 rfl rfl dX10_weightOf_5 (fun h5 => ?_) (fun h5 => ?_)
  · refine tm_iconst (-1) rfl 19 rfl dX10_weightOf_18 ?_
    exact tm_iretR ⟨rfl, (by first | exact (wof_1 (Or.inl h5)).symm | exact (wof_1 (Or.inr h15)).symm), frM.rf⟩ dX10_weightOf_19
  · refine tm_iload_2 9 rfl dX10_weightOf_8 ?_
    refine tm_i2l 10 rfl dX10_weightOf_9 ?_
    refine tm_lconst 0 rfl 11 rfl dX10_weightOf_10 ?_
    refine tm_lconst 1 rfl 12 rfl dX10_weightOf_11 ?_
    refine tm_callS_I (c_X10_in) ms_X10_in ml_X10_60 rfl rfl (Nat.le_of_ble_eq_true rfl) 15 rfl dX10_weightOf_12 ?_
    rw [btw_in (N := 2) rfl]
    refine tm_if_neB 20 18 rfl rfl dX10_weightOf_15 (fun h15 => ?_) (fun h15 => ?_)
    · obtain ⟨k, hk, rfl⟩ := inN_of h5
      obtain ⟨b, rfl⟩ := in2_of h15
      refine tm_iload_2 21 rfl dX10_weightOf_20 ?_
      refine tm_if_ne 36 24 rfl rfl dX10_weightOf_21 (fun h21 => ?_) (fun h21 => ?_)
      · refine tm_aload_0 37 rfl dX10_weightOf_36 ?_
        refine tm_aload_0 38 rfl dX10_weightOf_37 ?_
        refine tm_getr fl_X10_11 rfl rfl 41 rfl dX10_weightOf_38 ?_
        refine tm_iconst (1) rfl 42 rfl dX10_weightOf_41 ?_
        refine tm_ald rfl (ix := 1) ⟨by decide, by decide, by decide⟩ 43 rfl dX10_weightOf_42 ?_
        rw [hM.2.1]
        refine tm_callVr_I (ci := 9) (c_X10_isLinear hn hσ.1 h4 (c := σ.2.1) (by omega)) mv_X10_isLinear ml_X10_101 rfl rfl rfl rfl rfl (Nat.le_of_ble_eq_true rfl) 46 rfl dX10_weightOf_43 (fun F1 M1 L1 hq => ?_)
        obtain ⟨hL, f1, rfl, hj⟩ := hq
        have hL := hL.symm
        subst hL
        have hM1 : hasM M1 σ := hM.fr f1
        refine tm_if_eqB 61 49 rfl rfl dX10_weightOf_46 (fun h46 => ?_) (fun h46 => ?_)
        · refine tm_bipush (-3) (by decide) 63 rfl dX10_weightOf_61 ?_
          exact tm_iretR ⟨rfl, (by first | rw [show bI b = 1 from by rw [(bI_n0 b).mp h21]; rfl, wof_3 h5 (isN h46)] | rw [show bI b = 1 from by rw [(bI_n0 b).mp h21]; rfl, wof_4 (by omega) h5 hjj]), f1⟩ dX10_weightOf_63
        · obtain ⟨j, hjj⟩ := isS h46
          refine tm_aload_0 50 rfl dX10_weightOf_49 ?_
          refine tm_getr fl_X10_21 rfl rfl 53 rfl dX10_weightOf_50 ?_
          refine tm_iload_1 54 rfl dX10_weightOf_53 ?_
          refine tm_ald rfl (ix := k) (ix_nI (by omega) (by decide)) 55 rfl dX10_weightOf_54 ?_
          rw [hj j hjj k (by omega)]
          refine tm_bipush (100) (by decide) 57 rfl dX10_weightOf_55 ?_
          refine tm_iadd 58 rfl dX10_weightOf_57 ?_
          refine tm_goto 63 rfl dX10_weightOf_58 ?_
          exact tm_iretR ⟨rfl, (by first | rw [show bI b = 1 from by rw [(bI_n0 b).mp h21]; rfl, wof_3 h5 (isN h46)] | rw [show bI b = 1 from by rw [(bI_n0 b).mp h21]; rfl, wof_4 (by omega) h5 hjj]), f1⟩ dX10_weightOf_63
      · refine tm_aload_0 25 rfl dX10_weightOf_24 ?_
        refine tm_getr fl_X10_11 rfl rfl 28 rfl dX10_weightOf_25 ?_
        refine tm_iconst (4) rfl 29 rfl dX10_weightOf_28 ?_
        refine tm_iload_1 30 rfl dX10_weightOf_29 ?_
        refine tm_iadd 31 rfl dX10_weightOf_30 ?_
        rw [show (4 : Int32) = nI 4 from rfl, nI_add]
        refine tm_ald rfl (ix := 4 + k) (ix_nI (by omega) (by decide)) 32 rfl dX10_weightOf_31 ?_
        rw [hM.2.2.2.2 k (by omega)]
        refine tm_bipush (100) (by decide) 34 rfl dX10_weightOf_32 ?_
        refine tm_iadd 35 rfl dX10_weightOf_34 ?_
        exact tm_iretR ⟨rfl, by rw [h21, wof_2 (by omega) h5], frM.rf⟩ dX10_weightOf_35
    · refine tm_iconst (-1) rfl 19 rfl dX10_weightOf_18 ?_
      exact tm_iretR ⟨rfl, (by first | exact (wof_1 (Or.inl h5)).symm | exact (wof_1 (Or.inr h15)).symm), frM.rf⟩ dX10_weightOf_19

set_option maxRecDepth 100000 in
set_option maxHeartbeats 4000000 in
theorem c_X10_least {g : GC} {d : Nat} {M : MI} {L : ML} {σ : AS} (hM : hasM M σ) (hσ : okS σ) : CrI g (d + 8) yX10_least cX10_least 1 .int [rf g 54] M L (fun r M' L' => L' = L ∧ r = ansLeast σ ∧ frM M M') := by
  have hn := hM.1
  have h4 := hσ.2.1
  have h16 := pow4 h4
  have hp1 := Nat.two_pow_pos σ.1
  have hc := okp hσ
  refine crI_of (own := RX10) (l := [some (rf g 54)]) 0 rfl rfl rfl (Nat.le_of_ble_eq_true rfl) ?_
  refine tm_aload_0 1 rfl dX10_least_0 ?_
  refine tm_aload_0 2 rfl dX10_least_1 ?_
  refine tm_getr fl_X10_11 rfl rfl 5 rfl dX10_least_2 ?_
  refine tm_iconst (1) rfl 6 rfl dX10_least_5 ?_
  refine tm_ald rfl (ix := 1) ⟨by decide, by decide, by decide⟩ 7 rfl dX10_least_6 ?_
  rw [hM.2.1]
  refine tm_callVr_I (ci := 9) (c_X10_isLinear hn hσ.1 h4 (c := σ.2.1) (by omega)) mv_X10_isLinear ml_X10_101 rfl rfl rfl rfl rfl (Nat.le_of_ble_eq_true rfl) 10 rfl dX10_least_7 (fun F1 M1 L1 hq => ?_)
  obtain ⟨hL, f1, rfl, hj⟩ := hq
  have hL := hL.symm
  subst hL
  have hM1 : hasM M1 σ := hM.fr f1
  refine tm_if_eqB 29 13 rfl rfl dX10_least_10 (fun h10 => ?_) (fun h10 => ?_)
  · refine tm_bipush (-3) (by decide) 31 rfl dX10_least_29 ?_
    exact tm_iretR ⟨rfl, (by first | exact (lea_1 (isN h10)).symm | exact (lea_2 hjj).symm), f1⟩ dX10_least_31
  · obtain ⟨j, hjj⟩ := isS h10
    refine tm_aload_0 14 rfl dX10_least_13 ?_
    refine tm_aload_0 15 rfl dX10_least_14 ?_
    refine tm_getr fl_X10_11 rfl rfl 18 rfl dX10_least_15 ?_
    refine tm_iconst (1) rfl 19 rfl dX10_least_18 ?_
    refine tm_ald rfl (ix := 1) ⟨by decide, by decide, by decide⟩ 20 rfl dX10_least_19 ?_
    rw [hM1.2.1]
    refine tm_callV_I (ci := 9) (c_X10_leastQuota hM1.1 h4 (c := σ.2.1) (by omega)) mv_X10_leastQuota ml_X10_104 rfl rfl rfl rfl rfl (Nat.le_of_ble_eq_true rfl) 23 rfl dX10_least_20 ?_
    rw [lq_m (hj j hjj)]
    refine tm_bipush (100) (by decide) 25 rfl dX10_least_23 ?_
    refine tm_iadd 26 rfl dX10_least_25 ?_
    refine tm_goto 31 rfl dX10_least_26 ?_
    exact tm_iretR ⟨rfl, (by first | exact (lea_1 (isN h10)).symm | exact (lea_2 hjj).symm), f1⟩ dX10_least_31

def cpW (M : MI) (j k : Nat) : MI := sr M 55 (fun u => if 4 ≤ u ∧ u < 4 + k then zI (dg j (u - 4)) else M 55 u)
theorem cpW_0 (M : MI) (j : Nat) : cpW M j 0 = M := by
  unfold cpW
  have e : (fun u => if 4 ≤ u ∧ u < 4 + 0 then zI (dg j (u - 4)) else M 55 u) = M 55 := by
    funext u
    exact if_neg (by omega)
  rw [e, sr_self]
theorem cpW_55 (M : MI) (j k : Nat) : cpW M j k 55 = (fun u => if 4 ≤ u ∧ u < 4 + k then zI (dg j (u - 4)) else M 55 u) := sr_eq _ _ _
theorem cpW_ne {M : MI} {j k i : Nat} (h : i ≠ 55) : cpW M j k i = M i := sr_ne h
theorem cpW_lo {M : MI} {j k i : Nat} (h : i < 4) : cpW M j k 55 i = M 55 i := by rw [cpW_55]; exact if_neg (by omega)
theorem cpW_s (M : MI) (j k : Nat) : s1 (cpW M j k) 55 (4 + k) (zI (dg j k)) = cpW M j (k + 1) := by
  unfold s1
  rw [cpW_55]
  funext i
  by_cases h : i = 55
  · subst h
    rw [sr_eq, cpW_55]
    funext u
    unfold upd
    by_cases q : u = 4 + k
    · subst q
      rw [if_pos rfl, if_pos (by omega), show 4 + k - 4 = k by omega]
    · rw [if_neg q]
      show (if 4 ≤ u ∧ u < 4 + k then _ else _) = _
      by_cases q2 : 4 ≤ u ∧ u < 4 + k
      · rw [if_pos q2, if_pos (by omega)]
      · rw [if_neg q2, if_neg (by omega)]
  · rw [sr_ne h, cpW_ne h, cpW_ne h]
theorem cpW_put {M : MI} {σ : AS} {j : Nat} {x : Int32} (h : hasM M σ) (hσ : okS σ) (hz : ∀ v, v < 4 → σ.1 ≤ v → dg j v = 0) : s1 (cpW M j σ.1) 55 3 x = putM M (σ.1, σ.2.1, σ.2.2.1, (fun v => if v < 4 then zI (dg j v) else 0), x) := by
  have h4 := hσ.2.1
  unfold s1
  have e : sr (cpW M j σ.1) 55 (upd (cpW M j σ.1 55) 3 x) = sr M 55 (upd (cpW M j σ.1 55) 3 x) := by
    funext i
    by_cases q : i = 55
    · subst q; rw [sr_eq, sr_eq]
    · rw [sr_ne q, sr_ne q, cpW_ne q]
  rw [e]
  refine gRow_eq (σ := σ) ?_ ?_ ?_ ?_ (fun v hv => ?_) (fun k hk => ?_)
  · rw [upd_ne (by decide), cpW_lo (by decide)]; exact h.1
  · rw [upd_ne (by decide), cpW_lo (by decide)]; exact h.2.1
  · rw [upd_ne (by decide), cpW_lo (by decide)]; exact h.2.2.1
  · exact upd_eq _ _ _
  · rw [upd_ne (by omega), cpW_55]
    show (if _ then _ else _) = (if v < 4 then _ else _)
    rw [if_pos hv]
    by_cases q : v < σ.1
    · rw [if_pos (by omega), show 4 + v - 4 = v by omega]
    · rw [if_neg (by omega), h.2.2.2.2 v hv, hσ.2.2.2.2.2.1 v (by omega), hz v hv (by omega)]; rfl
  · rw [upd_ne (by omega), cpW_55]
    exact if_neg (by omega)
set_option maxRecDepth 100000 in
set_option maxHeartbeats 4000000 in
theorem c_X10_becomes2 {g : GC} {d : Nat} {M : MI} {L : ML} {σ : AS} (hM : hasM M σ) (hσ : okS σ) : CrI g (d + 8) yX10_becomes cX10_becomes 3 .int [rf g 54, .int 2] M L (fun r M' L' => L' = L ∧ r = (opLst σ).1 ∧ ∃ M1, frM M M1 ∧ M' = putM M1 (opLst σ).2) := by
  have hn := hM.1
  have h4 := hσ.2.1
  have h16 := pow4 h4
  have hp1 := Nat.two_pow_pos σ.1
  have hc := okp hσ
  refine crI_of (own := RX10) (l := [some (rf g 54), some (.int 2), none]) 1 rfl rfl rfl (Nat.le_of_ble_eq_true rfl) ?_
  refine tm_iload_1 1 rfl dX10_becomes_0 ?_
  refine tm_i2l 2 rfl dX10_becomes_1 ?_
  refine tm_lconst 0 rfl 3 rfl dX10_becomes_2 ?_
  refine tm_ldc2 kl_X10_64 6 rfl dX10_becomes_3 ?_
  refine tm_callS_I (c_X10_in) ms_X10_in ml_X10_60 rfl rfl (Nat.le_of_ble_eq_true rfl) 9 rfl dX10_becomes_6 ?_
  rw [show btw (2 : Int32).toInt64 0 2 = true by decide]
  refine tm_if_neB 14 12 rfl rfl dX10_becomes_9 (fun h9 => ?_) (fun h9 => ?_)
  · refine tm_iload_1 15 rfl dX10_becomes_14 ?_
    refine tm_iconst (2) rfl 16 rfl dX10_becomes_15 ?_
    refine tm_icmp_ne_f 19 (rfl) rfl rfl dX10_becomes_16 ?_
    refine tm_aload_0 20 rfl dX10_becomes_19 ?_
    refine tm_aload_0 21 rfl dX10_becomes_20 ?_
    refine tm_getr fl_X10_11 rfl rfl 24 rfl dX10_becomes_21 ?_
    refine tm_iconst (1) rfl 25 rfl dX10_becomes_24 ?_
    refine tm_ald rfl (ix := 1) ⟨by decide, by decide, by decide⟩ 26 rfl dX10_becomes_25 ?_
    rw [hM.2.1]
    refine tm_callVr_I (ci := 9) (c_X10_isLinear hn hσ.1 h4 (c := σ.2.1) (by omega)) mv_X10_isLinear ml_X10_101 rfl rfl rfl rfl rfl (Nat.le_of_ble_eq_true rfl) 29 rfl dX10_becomes_26 (fun F1 M1 L1 hq => ?_)
    obtain ⟨hL, f1, rfl, hj⟩ := hq
    have hL := hL.symm
    subst hL
    have hM1 : hasM M1 σ := hM.fr f1
    refine tm_if_neB 35 32 rfl rfl dX10_becomes_29 (fun h29 => ?_) (fun h29 => ?_)
    · obtain ⟨j, hjj⟩ := isS h29
      have hz := (LR_dg hjj).1
      refine tm_iconst (0) rfl 36 rfl dX10_becomes_35 ?_
      refine tm_istore_2 (by decide) rfl 37 rfl dX10_becomes_36 ?_
      refine tm_mem (cpW_0 M1 j) rfl ?_
      refine tm_loop (N := σ.1) (fun k => Tm g (d + 8) RX10 cX10_becomes 3 (some .int) (QIr g (fun r M' L' => L' = L ∧ r = (opLst σ).1 ∧ ∃ M1, frM M M1 ∧ M' = putM M1 (opLst σ).2)) 37 [some (rf g 54), some (.int 2), some (.int (nI k))] [] (cpW M1 j k) (L)) (fun k hk ih => ?_) ?_
      · refine tm_iload_2 38 rfl dX10_becomes_37 ?_
        refine tm_aload_0 39 rfl dX10_becomes_38 ?_
        refine tm_getr fl_X10_11 rfl rfl 42 rfl dX10_becomes_39 ?_
        refine tm_iconst (0) rfl 43 rfl dX10_becomes_42 ?_
        refine tm_ald rfl (ix := 0) ⟨by decide, by decide, by decide⟩ 44 rfl dX10_becomes_43 ?_
        rw [cpW_lo (by decide), hM1.1]
        refine tm_icmp_ge_f 47 (nI_ge hk (by omega)) rfl rfl dX10_becomes_44 ?_
        refine tm_aload_0 48 rfl dX10_becomes_47 ?_
        refine tm_getr fl_X10_11 rfl rfl 51 rfl dX10_becomes_48 ?_
        refine tm_iconst (4) rfl 52 rfl dX10_becomes_51 ?_
        refine tm_iload_2 53 rfl dX10_becomes_52 ?_
        refine tm_iadd 54 rfl dX10_becomes_53 ?_
        rw [show (4 : Int32) = nI 4 from rfl, nI_add]
        refine tm_aload_0 55 rfl dX10_becomes_54 ?_
        refine tm_getr fl_X10_21 rfl rfl 58 rfl dX10_becomes_55 ?_
        refine tm_iload_2 59 rfl dX10_becomes_58 ?_
        refine tm_ald rfl (ix := k) (ix_nI (by omega) (by decide)) 60 rfl dX10_becomes_59 ?_
        rw [cpW_ne (by decide), hj j hjj k (by omega)]
        refine tm_ast rfl (ix := 4 + k) (ix_nI (by omega) (by decide)) 61 rfl dX10_becomes_60 ?_
        refine tm_iinc_2 (nI (k + 1)) (iinc1 k) (by decide) rfl 64 rfl dX10_becomes_61 ?_
        refine tm_goto 37 rfl dX10_becomes_64 ?_
        rw [cpW_s]
        exact ih
      · refine tm_iload_2 38 rfl dX10_becomes_37 ?_
        refine tm_aload_0 39 rfl dX10_becomes_38 ?_
        refine tm_getr fl_X10_11 rfl rfl 42 rfl dX10_becomes_39 ?_
        refine tm_iconst (0) rfl 43 rfl dX10_becomes_42 ?_
        refine tm_ald rfl (ix := 0) ⟨by decide, by decide, by decide⟩ 44 rfl dX10_becomes_43 ?_
        rw [cpW_lo (by decide), hM1.1]
        refine tm_icmp_ge_t 67 (nI_le (Nat.le_refl _) (by omega)) rfl dX10_becomes_44 ?_
        refine tm_aload_0 68 rfl dX10_becomes_67 ?_
        refine tm_getr fl_X10_11 rfl rfl 71 rfl dX10_becomes_68 ?_
        refine tm_iconst (3) rfl 72 rfl dX10_becomes_71 ?_
        refine tm_aload_0 73 rfl dX10_becomes_72 ?_
        refine tm_aload_0 74 rfl dX10_becomes_73 ?_
        refine tm_getr fl_X10_11 rfl rfl 77 rfl dX10_becomes_74 ?_
        refine tm_iconst (1) rfl 78 rfl dX10_becomes_77 ?_
        refine tm_ald rfl (ix := 1) ⟨by decide, by decide, by decide⟩ 79 rfl dX10_becomes_78 ?_
        rw [cpW_lo (by decide), hM1.2.1]
        refine tm_callV_I (ci := 9) (c_X10_leastQuota (M := cpW M1 j σ.1) (by rw [cpW_lo (by decide)]; exact hM1.1) h4 (c := σ.2.1) (by omega)) mv_X10_leastQuota ml_X10_104 rfl rfl rfl rfl rfl (Nat.le_of_ble_eq_true rfl) 82 rfl dX10_becomes_79 ?_
        rw [lq_m (M := cpW M1 j σ.1) (fun u hu => by rw [cpW_ne (by decide)]; exact hj j hjj u hu)]
        refine tm_ast rfl (ix := 3) ⟨by decide, by decide, by decide⟩ 83 rfl dX10_becomes_82 ?_
        rw [cpW_put hM1 hσ hz]
        refine tm_aload_0 84 rfl dX10_becomes_83 ?_
        refine tm_getr fl_X10_11 rfl rfl 87 rfl dX10_becomes_84 ?_
        refine tm_iconst (3) rfl 88 rfl dX10_becomes_87 ?_
        refine tm_ald rfl (ix := 3) ⟨by decide, by decide, by decide⟩ 89 rfl dX10_becomes_88 ?_
        rw [putM_55]
        refine tm_bipush (100) (by decide) 91 rfl dX10_becomes_89 ?_
        refine tm_iadd 92 rfl dX10_becomes_91 ?_
        exact tm_iretR ⟨rfl, by rw [lst_s hjj]; rfl, M1, f1, by rw [lst_s hjj]⟩ dX10_becomes_92
    · refine tm_bipush (-3) (by decide) 34 rfl dX10_becomes_32 ?_
      exact tm_iretR ⟨rfl, by rw [lst_n (isN h29)], M1, f1, by rw [lst_n (isN h29)]; exact (putM_self hM1).symm⟩ dX10_becomes_34
  · exact absurd h9 (by decide)

set_option maxRecDepth 100000 in
set_option maxHeartbeats 4000000 in
theorem c_X10_becomes0 {g : GC} {d : Nat} {M : MI} {L : ML} {σ : AS} (hM : hasM M σ) (hσ : okS σ) : CfI g (d + 2) yX10_becomes cX10_becomes 3 .int [rf g 54, .int 0] M L ((opDua σ).1) (putM M (opDua σ).2) (L) := by
  have hn := hM.1
  have h4 := hσ.2.1
  have h16 := pow4 h4
  have hp1 := Nat.two_pow_pos σ.1
  have hc := okp hσ
  refine cfI_of (own := RX10) (l := [some (rf g 54), some (.int 0), none]) 1 rfl rfl rfl (Nat.le_of_ble_eq_true rfl) ?_
  refine tm_iload_1 1 rfl dX10_becomes_0 ?_
  refine tm_i2l 2 rfl dX10_becomes_1 ?_
  refine tm_lconst 0 rfl 3 rfl dX10_becomes_2 ?_
  refine tm_ldc2 kl_X10_64 6 rfl dX10_becomes_3 ?_
  refine tm_callS_I (c_X10_in) ms_X10_in ml_X10_60 rfl rfl (Nat.le_of_ble_eq_true rfl) 9 rfl dX10_becomes_6 ?_
  rw [show btw (0 : Int32).toInt64 0 2 = true by decide]
  refine tm_if_neB 14 12 rfl rfl dX10_becomes_9 (fun h9 => ?_) (fun h9 => ?_)
  · refine tm_iload_1 15 rfl dX10_becomes_14 ?_
    refine tm_iconst (2) rfl 16 rfl dX10_becomes_15 ?_
    refine tm_icmp_ne_t 93 (by decide) rfl dX10_becomes_16 ?_
    refine tm_aload_0 94 rfl dX10_becomes_93 ?_
    refine tm_getr fl_X10_11 rfl rfl 97 rfl dX10_becomes_94 ?_
    refine tm_iconst (1) rfl 98 rfl dX10_becomes_97 ?_
    refine tm_iload_1 99 rfl dX10_becomes_98 ?_
    refine tm_if_ne_f 102 (rfl) rfl rfl dX10_becomes_99 ?_
    refine tm_aload_0 103 rfl dX10_becomes_102 ?_
    refine tm_aload_0 104 rfl dX10_becomes_103 ?_
    refine tm_getr fl_X10_11 rfl rfl 107 rfl dX10_becomes_104 ?_
    refine tm_iconst (1) rfl 108 rfl dX10_becomes_107 ?_
    refine tm_ald rfl (ix := 1) ⟨by decide, by decide, by decide⟩ 109 rfl dX10_becomes_108 ?_
    rw [hM.2.1]
    refine tm_callV_I (ci := 9) (c_X10_dual hn h4 (c := σ.2.1) (by omega)) mv_X10_dual ml_X10_107 rfl rfl rfl rfl rfl (Nat.le_of_ble_eq_true rfl) 112 rfl dX10_becomes_109 ?_
    refine tm_goto 128 rfl dX10_becomes_112 ?_
    refine tm_ast rfl (ix := 1) ⟨by decide, by decide, by decide⟩ 129 rfl dX10_becomes_128 ?_
    rw [putM_c hM]
    refine tm_aload_0 130 rfl dX10_becomes_129 ?_
    refine tm_getr fl_X10_11 rfl rfl 133 rfl dX10_becomes_130 ?_
    refine tm_iconst (1) rfl 134 rfl dX10_becomes_133 ?_
    refine tm_ald rfl (ix := 1) ⟨by decide, by decide, by decide⟩ 135 rfl dX10_becomes_134 ?_
    exact tm_iret (by rw [putM_55]; rfl) rfl rfl dX10_becomes_135
  · exact absurd h9 (by decide)

theorem opp_m {n c : Nat} (h4 : n ≤ 4) (hc : c < 2 ^ 2 ^ n) : nI (2 ^ 2 ^ n - 1) &&& (nI c ^^^ (-1)) = nI (opN n c) := by
  have h16 := pow4 h4
  rw [show (-1 : Int32) = nI (2 ^ 32 - 1) from rfl, fb_xorI, fa_and]
  congr 1
  refine bits_ext (N := 2 ^ n) (Nat.lt_of_le_of_lt Nat.and_le_left (by have := Nat.two_pow_pos (2 ^ n); omega)) (opN_lt n c) (fun k hk => ?_)
  rw [opN_t hk, Nat.testBit_and, Nat.testBit_xor, Nat.testBit_two_pow_sub_one, Nat.testBit_two_pow_sub_one]
  simp [hk, show k < 32 by omega]
set_option maxRecDepth 100000 in
set_option maxHeartbeats 4000000 in
theorem c_X10_becomes1 {g : GC} {d : Nat} {M : MI} {L : ML} {σ : AS} (hM : hasM M σ) (hσ : okS σ) : CfI g (d + 2) yX10_becomes cX10_becomes 3 .int [rf g 54, .int 1] M L ((opOpp σ).1) (putM M (opOpp σ).2) (L) := by
  have hn := hM.1
  have h4 := hσ.2.1
  have h16 := pow4 h4
  have hp1 := Nat.two_pow_pos σ.1
  have hc := okp hσ
  refine cfI_of (own := RX10) (l := [some (rf g 54), some (.int 1), none]) 1 rfl rfl rfl (Nat.le_of_ble_eq_true rfl) ?_
  refine tm_iload_1 1 rfl dX10_becomes_0 ?_
  refine tm_i2l 2 rfl dX10_becomes_1 ?_
  refine tm_lconst 0 rfl 3 rfl dX10_becomes_2 ?_
  refine tm_ldc2 kl_X10_64 6 rfl dX10_becomes_3 ?_
  refine tm_callS_I (c_X10_in) ms_X10_in ml_X10_60 rfl rfl (Nat.le_of_ble_eq_true rfl) 9 rfl dX10_becomes_6 ?_
  rw [show btw (1 : Int32).toInt64 0 2 = true by decide]
  refine tm_if_neB 14 12 rfl rfl dX10_becomes_9 (fun h9 => ?_) (fun h9 => ?_)
  · refine tm_iload_1 15 rfl dX10_becomes_14 ?_
    refine tm_iconst (2) rfl 16 rfl dX10_becomes_15 ?_
    refine tm_icmp_ne_t 93 (by decide) rfl dX10_becomes_16 ?_
    refine tm_aload_0 94 rfl dX10_becomes_93 ?_
    refine tm_getr fl_X10_11 rfl rfl 97 rfl dX10_becomes_94 ?_
    refine tm_iconst (1) rfl 98 rfl dX10_becomes_97 ?_
    refine tm_iload_1 99 rfl dX10_becomes_98 ?_
    refine tm_if_ne_t 115 (by decide) rfl dX10_becomes_99 ?_
    refine tm_aload_0 116 rfl dX10_becomes_115 ?_
    refine tm_callV_I (ci := 9) (c_X10_most hn h4) mv_X10_most ml_X10_72 rfl rfl rfl rfl rfl (Nat.le_of_ble_eq_true rfl) 119 rfl dX10_becomes_116 ?_
    refine tm_aload_0 120 rfl dX10_becomes_119 ?_
    refine tm_getr fl_X10_11 rfl rfl 123 rfl dX10_becomes_120 ?_
    refine tm_iconst (1) rfl 124 rfl dX10_becomes_123 ?_
    refine tm_ald rfl (ix := 1) ⟨by decide, by decide, by decide⟩ 125 rfl dX10_becomes_124 ?_
    rw [hM.2.1]
    refine tm_iconst (-1) rfl 126 rfl dX10_becomes_125 ?_
    refine tm_ixor 127 rfl dX10_becomes_126 ?_
    refine tm_iand 128 rfl dX10_becomes_127 ?_
    rw [opp_m h4 hσ.2.2.1]
    refine tm_ast rfl (ix := 1) ⟨by decide, by decide, by decide⟩ 129 rfl dX10_becomes_128 ?_
    rw [putM_c hM]
    refine tm_aload_0 130 rfl dX10_becomes_129 ?_
    refine tm_getr fl_X10_11 rfl rfl 133 rfl dX10_becomes_130 ?_
    refine tm_iconst (1) rfl 134 rfl dX10_becomes_133 ?_
    refine tm_ald rfl (ix := 1) ⟨by decide, by decide, by decide⟩ 135 rfl dX10_becomes_134 ?_
    exact tm_iret (by rw [putM_55]; rfl) rfl rfl dX10_becomes_135
  · exact absurd h9 (by decide)


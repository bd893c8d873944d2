def loD (n c v : Nat) : Nat := (loB n c v + 4).toNat
def hiD (n c v : Nat) : Nat := (hiB n c v + 4).toNat
theorem D_rng (n c v : Nat) : loD n c v ≤ hiD n c v ∧ hiD n c v ≤ 8 ∧ loB n c v = (loD n c v : Int) - 4 ∧ hiB n c v = (hiD n c v : Int) - 4 := by
  unfold loD hiD loB hiB
  split
  · split
    · split <;> decide
    · decide
  · decide
/-- a digit out of the bounds: nothing there -/
theorem P2_out {n c v j : Nat} (hv : v < 4) (h : dgN j v < loD n c v ∨ hiD n c v < dgN j v) : P2 n c j = false := by
  cases q : P2 n c j
  · rfl
  · have h1 := (P2_iff.mp q).1 v hv
    obtain ⟨d1, d2, d3, d4⟩ := D_rng n c v
    unfold dg at h1
    omega
theorem dg_in {v q x j : Nat} (hv : v < 4) (hx : x ≤ 9) : (9 ^ (4 - v) * q ≤ j → j < 9 ^ (4 - v) * q + x * 9 ^ (3 - v) → dgN j v < x) ∧ (9 ^ (4 - v) * q + x * 9 ^ (3 - v) ≤ j → j < 9 ^ (4 - v) * q + 9 ^ (4 - v) → x ≤ dgN j v) := by
  rcases (show v = 0 ∨ v = 1 ∨ v = 2 ∨ v = 3 by omega) with rfl | rfl | rfl | rfl
  · simp only [show (9 : Nat) ^ (4 - 0) = 6561 from rfl, show (9 : Nat) ^ (3 - 0) = 729 from rfl]
    rw [dgN_0]; omega
  · simp only [show (9 : Nat) ^ (4 - 1) = 729 from rfl, show (9 : Nat) ^ (3 - 1) = 81 from rfl]
    rw [dgN_1]; omega
  · simp only [show (9 : Nat) ^ (4 - 2) = 81 from rfl, show (9 : Nat) ^ (3 - 2) = 9 from rfl]
    rw [dgN_2]; omega
  · simp only [show (9 : Nat) ^ (4 - 3) = 9 from rfl, show (9 : Nat) ^ (3 - 3) = 1 from rfl]
    rw [dgN_3]; omega
theorem b_enter {n c v q : Nat} (hv : v < 4) : bst (P2 n c) (9 ^ (4 - v) * q + (loD n c v + 0) * 9 ^ (3 - v)) = bst (P2 n c) (9 ^ (4 - v) * q) := by
  obtain ⟨d1, d2, -, -⟩ := D_rng n c v
  rw [Nat.add_zero]
  refine bst_skip _ (fun j h1 h2 => P2_out hv (Or.inl ?_))
  exact (dg_in hv (by omega)).1 h1 h2
theorem b_leave {n c v q : Nat} (hv : v < 4) : bst (P2 n c) (9 ^ (4 - v) * q + (loD n c v + (hiD n c v + 1 - loD n c v)) * 9 ^ (3 - v)) = bst (P2 n c) (9 ^ (4 - v) * q + 9 ^ (4 - v)) := by
  obtain ⟨d1, d2, -, -⟩ := D_rng n c v
  rw [show loD n c v + (hiD n c v + 1 - loD n c v) = hiD n c v + 1 by omega]
  have hle : (hiD n c v + 1) * 9 ^ (3 - v) ≤ 9 ^ (4 - v) := by rw [p9 hv]; exact Nat.mul_le_mul_right _ (by omega)
  have e := bst_skip (P := P2 n c) (a := 9 ^ (4 - v) * q + (hiD n c v + 1) * 9 ^ (3 - v)) (9 ^ (4 - v) - (hiD n c v + 1) * 9 ^ (3 - v)) (fun j h1 h2 => P2_out hv (Or.inr ((dg_in (q := q) hv (by omega)).2 h1 (by omega))))
  rw [← e]
  congr 1
  omega
theorem z_f {n c v k : Nat} (hk : k < hiD n c v + 1 - loD n c v) : ¬ zI (hiB n c v) < zI (((loD n c v + k : Nat) : Int) - 4) := by
  obtain ⟨d1, d2, d3, d4⟩ := D_rng n c v
  rw [fa_lt, zI_t (by omega) (by omega), zI_t (by omega) (by omega)]
  omega
theorem z_t (n c v : Nat) : zI (hiB n c v) < zI (((loD n c v + (hiD n c v + 1 - loD n c v) : Nat) : Int) - 4) := by
  obtain ⟨d1, d2, d3, d4⟩ := D_rng n c v
  rw [fa_lt, zI_t (by omega) (by omega), zI_t (by omega) (by omega)]
  omega
theorem z_0 (n c v : Nat) : zI (loB n c v) = zI (((loD n c v + 0 : Nat) : Int) - 4) := by
  obtain ⟨d1, d2, d3, d4⟩ := D_rng n c v
  rw [d3]; rfl
theorem zinc4 (a k : Nat) : zI (((a + k : Nat) : Int) - 4) + Int32.ofInt 1 = zI (((a + (k + 1) : Nat) : Int) - 4) := zinck (a + k)
def thr (b : Option Nat) : Nat := match b with
  | none => 1000
  | some j => sm j
theorem thr_le (b : Option Nat) : thr b ≤ 1000 := by
  cases b with
  | none => exact Nat.le_refl _
  | some j => have := sm_le j; show sm j ≤ _; omega
def stC (M : MI) (b : Option Nat) : Prop := M 41 5 = nI (thr b) ∧ ∀ j, b = some j → ∀ u, u < 4 → M 42 u = zI (dg j u)
theorem bst_up {P : Nat → Bool} {i : Nat} (h : P i = true) (h2 : sm i < thr (bst P i)) : bst P (i + 1) = some i := by
  have e : bst P (i + 1) = (match bst P i with | none => if P i then some i else none | some j => if P i && decide (sm i < sm j) then some i else some j) := rfl
  rw [e]
  cases q : bst P i with
  | none => simp [h]
  | some j =>
    rw [q] at h2
    have h2 : sm i < sm j := h2
    simp [h, h2]
theorem bst_no {P : Nat → Bool} {i : Nat} (h : P i = false ∨ ¬ sm i < thr (bst P i)) : bst P (i + 1) = bst P i := by
  have e : bst P (i + 1) = (match bst P i with | none => if P i then some i else none | some j => if P i && decide (sm i < sm j) then some i else some j) := rfl
  rw [e]
  cases q : bst P i with
  | none =>
    rw [q] at h
    rcases h with h | h
    · simp [h]
    · exact absurd (show sm i < 1000 by have := sm_le i; omega) h
  | some j =>
    rw [q] at h
    rcases h with h | h
    · simp [h]
    · have h : ¬ sm i < sm j := h
      simp [h]
theorem abs_dg (i k : Nat) : (if 0 ≤ zI (dg i k) then zI (dg i k) else -zI (dg i k)) = nI (dg i k).natAbs := by
  have := dg_rng i k
  split
  · next h => exact (zabs this.1 this.2 h).symm
  · next h => exact (zabs2 this.1 this.2 h).symm
theorem row_t {n c i j : Nat} {M : MI} (h4 : n ≤ 4) (hr : ∀ u, u < 4 → M j u = zI (dg i u)) : decide (gtF (fun k => !c.testBit k) (fun k => wth (M j) k 4) (-1000) (2 ^ n) < lsF c.testBit (fun k => wth (M j) k 4) 1000 (2 ^ n)) = tlB n c (dg i) := by
  refine tl_decB (A := 1000) rfl rfl (by decide) (fun k hk => ?_)
  have H := wth_I (w := M j) (r := dg i) (k := k) (n := 4) (by omega) (fun v hv => ⟨by rw [hr v hv]; exact zI_dg i v, by have := dg_rng i v; omega, by have := dg_rng i v; omega⟩)
  have e := WI_hi (r := dg i) hk (4 - n)
  rw [show n + (4 - n) = 4 by omega] at e
  show (wth (M j) k 4).toInt = _ ∧ _
  rw [H.1, e]
  rw [e] at H
  exact ⟨rfl, by omega, by omega⟩
theorem cpR_ne {M : MI} {i j n q : Nat} (h : q ≠ j) : cpR M i j n q = M q := sr_ne h
theorem cpR_at {M : MI} {i j n k : Nat} (h : k < n) : cpR M i j n j k = M i k := by
  unfold cpR
  rw [sr_eq]
  exact if_pos h
theorem cpR_fr {M M' : MI} {i j n : Nat} (h : frS M M') (h1 : 41 ≤ j) (h2 : j ≤ 45) : frS M (cpR M' i j n) := h.sr h1 h2 _
set_option maxRecDepth 100000 in
set_option maxHeartbeats 4000000 in
theorem c_X3_holdIfLess {g : GC} {d : Nat} {M : MI} {L : ML} {n c i : Nat} (h4 : n ≤ 4) (hc : c < 2 ^ 31) (hr : ∀ u, u < 4 → M 45 u = zI (dg i u)) (hP : P2 n c i = tlB n c (dg i)) (hB : stC M (bst (P2 n c) i)) : CrV g (d + 2) yX3_holdIfLess cX3_holdIfLess 5 [rf g 41, .int (nI n), .int (nI c)] M L (fun M' L' => L' = L ∧ frS M M' ∧ M' 43 = M 43 ∧ M' 44 = M 44 ∧ stC M' (bst (P2 n c) (i + 1))) := by
  refine crV_of (own := RX3) (l := [some (rf g 41), some (.int (nI n)), some (.int (nI c)), none, none]) 2 rfl rfl rfl (Nat.le_of_ble_eq_true rfl) ?_
  refine tm_iconst (0) rfl 1 rfl dX3_holdIfLess_0 ?_
  refine tm_istore_3 (by decide) rfl 2 rfl dX3_holdIfLess_1 ?_
  refine tm_iconst (0) rfl 3 rfl dX3_holdIfLess_2 ?_
  refine tm_istore_4 (by decide) rfl 5 rfl dX3_holdIfLess_3 ?_
  refine tm_loop (N := 4) (fun k => Tm g (d + 2) RX3 cX3_holdIfLess 5 none (QVr g (fun M' L' => L' = L ∧ frS M M' ∧ M' 43 = M 43 ∧ M' 44 = M 44 ∧ stC M' (bst (P2 n c) (i + 1)))) 5 [some (rf g 41), some (.int (nI n)), some (.int (nI c)), some (.int (nI (sv i k))), some (.int (nI k))] [] (M) (L)) (fun k hk ih => ?_) ?_
  · refine tm_iload_4 7 rfl dX3_holdIfLess_5 ?_
    refine tm_iconst (4) rfl 8 rfl dX3_holdIfLess_7 ?_
    refine tm_icmp_ge_f 11 (nI_ge hk (by decide)) rfl rfl dX3_holdIfLess_8 ?_
    refine tm_iload_3 12 rfl dX3_holdIfLess_11 ?_
    refine tm_aload_0 13 rfl dX3_holdIfLess_12 ?_
    refine tm_getr fl_X3_25 rfl rfl 16 rfl dX3_holdIfLess_13 ?_
    refine tm_iload_4 18 rfl dX3_holdIfLess_16 ?_
    refine tm_ald rfl (ix := k) (ix_nI hk (by decide)) 19 rfl dX3_holdIfLess_18 ?_
    rw [hr k hk]
    refine tm_callS_I (c_J9_abs_0f7a4) ms_J9_abs_0f7a4 ml_X3_62 rfl rfl (Nat.le_of_ble_eq_true rfl) 22 rfl dX3_holdIfLess_19 ?_
    rw [abs_dg]
    refine tm_iadd 23 rfl dX3_holdIfLess_22 ?_
    rw [nI_add]
    refine tm_istore_3 (by decide) rfl 24 rfl dX3_holdIfLess_23 ?_
    refine tm_iinc_4 (nI (k + 1)) (iinc1 k) (by decide) rfl 27 rfl dX3_holdIfLess_24 ?_
    refine tm_goto 5 rfl dX3_holdIfLess_27 ?_
    exact ih
  · refine tm_iload_4 7 rfl dX3_holdIfLess_5 ?_
    refine tm_iconst (4) rfl 8 rfl dX3_holdIfLess_7 ?_
    refine tm_icmp_ge_t 30 (nI_le (Nat.le_refl 4) (by decide)) rfl dX3_holdIfLess_8 ?_
    refine tm_iload_3 31 rfl dX3_holdIfLess_30 ?_
    refine tm_aload_0 32 rfl dX3_holdIfLess_31 ?_
    refine tm_geti fl_X3_28 rfl rfl 35 rfl dX3_holdIfLess_32 ?_
    rw [hB.1]
    refine tm_icmp_ge 67 38 rfl rfl dX3_holdIfLess_35 (fun h35 => ?_) (fun h35 => ?_)
    · exact tm_vretR (by
        have hsv : sv i 4 = sm i := sv_4 i
        have hle := sm_le i
        have htl := thr_le (bst (P2 n c) i)
        first
        | (have hlt : sm i < thr (bst (P2 n c) i) := by rw [← hsv]; exact (nI_ltI (by omega) (by omega)).mp (nle_lt h35)
           refine ⟨rfl, cpR_fr ((dvM_fr _ _ _ _).s1 (by decide) (by decide) _ _) (by decide) (by decide), by rw [cpR_ne (by decide), s1_ne (by decide), dvM_ne (by decide)], by rw [cpR_ne (by decide), s1_ne (by decide), dvM_ne (by decide)], ?_⟩
           rw [bst_up (by rw [hP]; exact h48) hlt]
           refine ⟨by rw [cpR_ne (by decide), s1_eq, hsv]; rfl, fun j hj u hu => ?_⟩
           rw [← Option.some.inj hj, cpR_at hu, s1_ne (by decide), dvM_ne (by decide)]
           exact hr u hu)
        | (refine ⟨rfl, dvM_fr _ _ _ _, by rw [dvM_ne (by decide)], by rw [dvM_ne (by decide)], ?_⟩
           rw [bst_no (Or.inl (by rw [hP]; exact h48))]
           exact ⟨by rw [dvM_k (by decide) (by decide)]; exact hB.1, fun j hj u hu => by rw [dvM_ne (by decide)]; exact hB.2 j hj u hu⟩)
        | (have hge : ¬ sm i < thr (bst (P2 n c) i) := fun z => (fa_of_lt ((nI_ltI (by omega) (by omega)).mpr z)).2.1 (by rw [← hsv]; exact h35)
           exact ⟨rfl, frS.rf, rfl, rfl, by rw [bst_no (Or.inr hge)]; exact hB⟩)) dX3_holdIfLess_67
    · refine tm_aload_0 39 rfl dX3_holdIfLess_38 ?_
      refine tm_aload_0 40 rfl dX3_holdIfLess_39 ?_
      refine tm_getr fl_X3_25 rfl rfl 43 rfl dX3_holdIfLess_40 ?_
      refine tm_iload_1 44 rfl dX3_holdIfLess_43 ?_
      refine tm_iload_2 45 rfl dX3_holdIfLess_44 ?_
      refine tm_callV_I (ci := 2) (c_X3_divides (j := 45) rfl (by decide) h4 hc) mv_X3_divides ml_X3_45 rfl rfl rfl rfl rfl (Nat.le_of_ble_eq_true rfl) 48 rfl dX3_holdIfLess_45 ?_
      rw [row_t h4 hr]
      refine tm_if_eqB 67 51 rfl rfl dX3_holdIfLess_48 (fun h48 => ?_) (fun h48 => ?_)
      · exact tm_vretR (by
          have hsv : sv i 4 = sm i := sv_4 i
          have hle := sm_le i
          have htl := thr_le (bst (P2 n c) i)
          first
          | (have hlt : sm i < thr (bst (P2 n c) i) := by rw [← hsv]; exact (nI_ltI (by omega) (by omega)).mp (nle_lt h35)
             refine ⟨rfl, cpR_fr ((dvM_fr _ _ _ _).s1 (by decide) (by decide) _ _) (by decide) (by decide), by rw [cpR_ne (by decide), s1_ne (by decide), dvM_ne (by decide)], by rw [cpR_ne (by decide), s1_ne (by decide), dvM_ne (by decide)], ?_⟩
             rw [bst_up (by rw [hP]; exact h48) hlt]
             refine ⟨by rw [cpR_ne (by decide), s1_eq, hsv]; rfl, fun j hj u hu => ?_⟩
             rw [← Option.some.inj hj, cpR_at hu, s1_ne (by decide), dvM_ne (by decide)]
             exact hr u hu)
          | (refine ⟨rfl, dvM_fr _ _ _ _, by rw [dvM_ne (by decide)], by rw [dvM_ne (by decide)], ?_⟩
             rw [bst_no (Or.inl (by rw [hP]; exact h48))]
             exact ⟨by rw [dvM_k (by decide) (by decide)]; exact hB.1, fun j hj u hu => by rw [dvM_ne (by decide)]; exact hB.2 j hj u hu⟩)
          | (have hge : ¬ sm i < thr (bst (P2 n c) i) := fun z => (fa_of_lt ((nI_ltI (by omega) (by omega)).mpr z)).2.1 (by rw [← hsv]; exact h35)
             exact ⟨rfl, frS.rf, rfl, rfl, by rw [bst_no (Or.inr hge)]; exact hB⟩)) dX3_holdIfLess_67
      · refine tm_aload_0 52 rfl dX3_holdIfLess_51 ?_
        refine tm_iload_3 53 rfl dX3_holdIfLess_52 ?_
        refine tm_puti fl_X3_28 fw_2_5 rfl rfl rfl rfl 56 rfl dX3_holdIfLess_53 ?_
        refine tm_aload_0 57 rfl dX3_holdIfLess_56 ?_
        refine tm_getr fl_X3_25 rfl rfl 60 rfl dX3_holdIfLess_57 ?_
        refine tm_aload_0 61 rfl dX3_holdIfLess_60 ?_
        refine tm_getr fl_X3_9 rfl rfl 64 rfl dX3_holdIfLess_61 ?_
        refine tm_callS_V (c_X4_copyRow (n := 4) rfl rfl (by decide)) ms_X4_copyRow ml_X3_68 rfl rfl (Nat.le_of_ble_eq_true rfl) 67 rfl dX3_holdIfLess_64 ?_
        exact tm_vretR (by
          have hsv : sv i 4 = sm i := sv_4 i
          have hle := sm_le i
          have htl := thr_le (bst (P2 n c) i)
          first
          | (have hlt : sm i < thr (bst (P2 n c) i) := by rw [← hsv]; exact (nI_ltI (by omega) (by omega)).mp (nle_lt h35)
             refine ⟨rfl, cpR_fr ((dvM_fr _ _ _ _).s1 (by decide) (by decide) _ _) (by decide) (by decide), by rw [cpR_ne (by decide), s1_ne (by decide), dvM_ne (by decide)], by rw [cpR_ne (by decide), s1_ne (by decide), dvM_ne (by decide)], ?_⟩
             rw [bst_up (by rw [hP]; exact h48) hlt]
             refine ⟨by rw [cpR_ne (by decide), s1_eq, hsv]; rfl, fun j hj u hu => ?_⟩
             rw [← Option.some.inj hj, cpR_at hu, s1_ne (by decide), dvM_ne (by decide)]
             exact hr u hu)
          | (refine ⟨rfl, dvM_fr _ _ _ _, by rw [dvM_ne (by decide)], by rw [dvM_ne (by decide)], ?_⟩
             rw [bst_no (Or.inl (by rw [hP]; exact h48))]
             exact ⟨by rw [dvM_k (by decide) (by decide)]; exact hB.1, fun j hj u hu => by rw [dvM_ne (by decide)]; exact hB.2 j hj u hu⟩)
          | (have hge : ¬ sm i < thr (bst (P2 n c) i) := fun z => (fa_of_lt ((nI_ltI (by omega) (by omega)).mpr z)).2.1 (by rw [← hsv]; exact h35)
             exact ⟨rfl, frS.rf, rfl, rfl, by rw [bst_no (Or.inr hge)]; exact hB⟩)) dX3_holdIfLess_67

theorem dig4 {x0 x1 x2 x3 : Nat} (h0 : x0 < 9) (h1 : x1 < 9) (h2 : x2 < 9) (h3 : x3 < 9) :
    let i := 9 ^ (4 - 3) * (9 * (9 * (9 * 0 + x0) + x1) + x2) + x3 * 9 ^ (3 - 3)
    dg i 0 = (x0 : Int) - 4 ∧ dg i 1 = (x1 : Int) - 4 ∧ dg i 2 = (x2 : Int) - 4 ∧ dg i 3 = (x3 : Int) - 4 := by
  simp only [show (9 : Nat) ^ (4 - 3) = 9 from rfl, show (9 : Nat) ^ (3 - 3) = 1 from rfl]
  unfold dg
  rw [dgN_0, dgN_1, dgN_2, dgN_3]
  omega
theorem P2_in {n c i : Nat} (h : ∀ v, v < 4 → loD n c v ≤ dgN i v ∧ dgN i v ≤ hiD n c v) : P2 n c i = tlB n c (dg i) := by
  have hb : ∀ v, v < 4 → loB n c v ≤ dg i v ∧ dg i v ≤ hiB n c v := fun v hv => by
    obtain ⟨d1, d2, d3, d4⟩ := D_rng n c v
    have := h v hv
    unfold dg
    omega
  cases z : tlB n c (dg i)
  · cases y : P2 n c i
    · rfl
    · have := (P2_iff.mp y).2
      rw [z] at this; cases this
  · exact P2_iff.mpr ⟨hb, z⟩
theorem dg_N {i v x : Nat} (h : dg i v = (x : Int) - 4) : dgN i v = x := by unfold dg at h; omega
theorem tried_4 {M : MI} {a b c d : Int32} (u : Nat) (hu : u < 4) : s1 (s1 (s1 (s1 M 45 0 a) 45 1 b) 45 2 c) 45 3 d 45 u = if u = 0 then a else if u = 1 then b else if u = 2 then c else d := by
  rcases (show u = 0 ∨ u = 1 ∨ u = 2 ∨ u = 3 by omega) with rfl | rfl | rfl | rfl
  · rw [s1_nk (by decide), s1_nk (by decide), s1_nk (by decide), s1_eq]; rfl
  · rw [s1_nk (by decide), s1_nk (by decide), s1_eq]; rfl
  · rw [s1_nk (by decide), s1_eq]; rfl
  · rw [s1_eq]; rfl
set_option maxRecDepth 100000 in
set_option maxHeartbeats 4000000 in
theorem c_X3_tryAll {g : GC} {d : Nat} {M : MI} {L : ML} {n c : Nat} (h4 : n ≤ 4) (hc : c < 2 ^ 31) (hlo : ∀ v, v < 4 → M 43 v = zI (loB n c v)) (hhi : ∀ v, v < 4 → M 44 v = zI (hiB n c v)) (hB : stC M (bst (P2 n c) 0)) : CrV g (d + 3) yX3_tryAll cX3_tryAll 7 [rf g 41, .int (nI n), .int (nI c)] M L (fun M' L' => L' = L ∧ frS M M' ∧ stC M' (bst (P2 n c) 6561)) := by
  refine crV_of (own := RX3) (l := [some (rf g 41), some (.int (nI n)), some (.int (nI c)), none, none, none, none]) 4 rfl rfl rfl (Nat.le_of_ble_eq_true rfl) ?_
  refine tm_aload_0 1 rfl dX3_tryAll_0 ?_
  refine tm_getr fl_X3_19 rfl rfl 4 rfl dX3_tryAll_1 ?_
  refine tm_iconst (0) rfl 5 rfl dX3_tryAll_4 ?_
  refine tm_ald rfl (ix := 0) ⟨by decide, by decide, by decide⟩ 6 rfl dX3_tryAll_5 ?_
  rw [hlo 0 (by decide), z_0]
  refine tm_istore_3 (by decide) rfl 7 rfl dX3_tryAll_6 ?_
  refine (tm_loop (N := hiD n c 0 + 1 - loD n c 0) (fun k0 => ∀ (Ma : MI), (frS M Ma ∧ Ma 43 = M 43 ∧ Ma 44 = M 44 ∧ stC Ma (bst (P2 n c) (9 ^ (4 - 0) * 0 + (loD n c 0 + k0) * 9 ^ (3 - 0)))) → Tm g (d + 3) RX3 cX3_tryAll 7 none (QVr g (fun M' L' => L' = L ∧ frS M M' ∧ stC M' (bst (P2 n c) 6561))) 7 [some (rf g 41), some (.int (nI n)), some (.int (nI c)), some (.int (zI (((loD n c 0 + k0 : Nat) : Int) - 4))), none, none, none] [] Ma (L)) (fun k0 hk0 ih0 Ma hI0 => ?_) (fun Ma hI0 => ?_)) M ?_
  · refine tm_iload_3 8 rfl dX3_tryAll_7 ?_
    refine tm_aload_0 9 rfl dX3_tryAll_8 ?_
    refine tm_getr fl_X3_22 rfl rfl 12 rfl dX3_tryAll_9 ?_
    refine tm_iconst (0) rfl 13 rfl dX3_tryAll_12 ?_
    refine tm_ald rfl (ix := 0) ⟨by decide, by decide, by decide⟩ 14 rfl dX3_tryAll_13 ?_
    rw [hI0.2.2.1, hhi 0 (by decide)]
    refine tm_icmp_gt_f 17 (z_f hk0) rfl rfl dX3_tryAll_14 ?_
    refine tm_aload_0 18 rfl dX3_tryAll_17 ?_
    refine tm_getr fl_X3_19 rfl rfl 21 rfl dX3_tryAll_18 ?_
    refine tm_iconst (1) rfl 22 rfl dX3_tryAll_21 ?_
    refine tm_ald rfl (ix := 1) ⟨by decide, by decide, by decide⟩ 23 rfl dX3_tryAll_22 ?_
    rw [hI0.2.1, hlo 1 (by decide), z_0]
    refine tm_istore_4 (by decide) rfl 25 rfl dX3_tryAll_23 ?_
    refine (tm_loop (N := hiD n c 1 + 1 - loD n c 1) (fun k1 => ∀ (Mb : MI), (frS M Mb ∧ Mb 43 = M 43 ∧ Mb 44 = M 44 ∧ stC Mb (bst (P2 n c) (9 ^ (4 - 1) * (9 * 0 + (loD n c 0 + k0)) + (loD n c 1 + k1) * 9 ^ (3 - 1)))) → Tm g (d + 3) RX3 cX3_tryAll 7 none (QVr g (fun M' L' => L' = L ∧ frS M M' ∧ stC M' (bst (P2 n c) 6561))) 25 [some (rf g 41), some (.int (nI n)), some (.int (nI c)), some (.int (zI (((loD n c 0 + k0 : Nat) : Int) - 4))), some (.int (zI (((loD n c 1 + k1 : Nat) : Int) - 4))), none, none] [] Mb (L)) (fun k1 hk1 ih1 Mb hI1 => ?_) (fun Mb hI1 => ?_)) Ma ?_
    · refine tm_iload_4 27 rfl dX3_tryAll_25 ?_
      refine tm_aload_0 28 rfl dX3_tryAll_27 ?_
      refine tm_getr fl_X3_22 rfl rfl 31 rfl dX3_tryAll_28 ?_
      refine tm_iconst (1) rfl 32 rfl dX3_tryAll_31 ?_
      refine tm_ald rfl (ix := 1) ⟨by decide, by decide, by decide⟩ 33 rfl dX3_tryAll_32 ?_
      rw [hI1.2.2.1, hhi 1 (by decide)]
      refine tm_icmp_gt_f 36 (z_f hk1) rfl rfl dX3_tryAll_33 ?_
      refine tm_aload_0 37 rfl dX3_tryAll_36 ?_
      refine tm_getr fl_X3_19 rfl rfl 40 rfl dX3_tryAll_37 ?_
      refine tm_iconst (2) rfl 41 rfl dX3_tryAll_40 ?_
      refine tm_ald rfl (ix := 2) ⟨by decide, by decide, by decide⟩ 42 rfl dX3_tryAll_41 ?_
      rw [hI1.2.1, hlo 2 (by decide), z_0]
      refine tm_istore_5 (by decide) rfl 44 rfl dX3_tryAll_42 ?_
      refine (tm_loop (N := hiD n c 2 + 1 - loD n c 2) (fun k2 => ∀ (Mc : MI), (frS M Mc ∧ Mc 43 = M 43 ∧ Mc 44 = M 44 ∧ stC Mc (bst (P2 n c) (9 ^ (4 - 2) * (9 * (9 * 0 + (loD n c 0 + k0)) + (loD n c 1 + k1)) + (loD n c 2 + k2) * 9 ^ (3 - 2)))) → Tm g (d + 3) RX3 cX3_tryAll 7 none (QVr g (fun M' L' => L' = L ∧ frS M M' ∧ stC M' (bst (P2 n c) 6561))) 44 [some (rf g 41), some (.int (nI n)), some (.int (nI c)), some (.int (zI (((loD n c 0 + k0 : Nat) : Int) - 4))), some (.int (zI (((loD n c 1 + k1 : Nat) : Int) - 4))), some (.int (zI (((loD n c 2 + k2 : Nat) : Int) - 4))), none] [] Mc (L)) (fun k2 hk2 ih2 Mc hI2 => ?_) (fun Mc hI2 => ?_)) Mb ?_
      · refine tm_iload_5 46 rfl dX3_tryAll_44 ?_
        refine tm_aload_0 47 rfl dX3_tryAll_46 ?_
        refine tm_getr fl_X3_22 rfl rfl 50 rfl dX3_tryAll_47 ?_
        refine tm_iconst (2) rfl 51 rfl dX3_tryAll_50 ?_
        refine tm_ald rfl (ix := 2) ⟨by decide, by decide, by decide⟩ 52 rfl dX3_tryAll_51 ?_
        rw [hI2.2.2.1, hhi 2 (by decide)]
        refine tm_icmp_gt_f 55 (z_f hk2) rfl rfl dX3_tryAll_52 ?_
        refine tm_aload_0 56 rfl dX3_tryAll_55 ?_
        refine tm_getr fl_X3_19 rfl rfl 59 rfl dX3_tryAll_56 ?_
        refine tm_iconst (3) rfl 60 rfl dX3_tryAll_59 ?_
        refine tm_ald rfl (ix := 3) ⟨by decide, by decide, by decide⟩ 61 rfl dX3_tryAll_60 ?_
        rw [hI2.2.1, hlo 3 (by decide), z_0]
        refine tm_istore_6 (by decide) rfl 63 rfl dX3_tryAll_61 ?_
        refine (tm_loop (N := hiD n c 3 + 1 - loD n c 3) (fun k3 => ∀ (Md : MI), (frS M Md ∧ Md 43 = M 43 ∧ Md 44 = M 44 ∧ stC Md (bst (P2 n c) (9 ^ (4 - 3) * (9 * (9 * (9 * 0 + (loD n c 0 + k0)) + (loD n c 1 + k1)) + (loD n c 2 + k2)) + (loD n c 3 + k3) * 9 ^ (3 - 3)))) → Tm g (d + 3) RX3 cX3_tryAll 7 none (QVr g (fun M' L' => L' = L ∧ frS M M' ∧ stC M' (bst (P2 n c) 6561))) 63 [some (rf g 41), some (.int (nI n)), some (.int (nI c)), some (.int (zI (((loD n c 0 + k0 : Nat) : Int) - 4))), some (.int (zI (((loD n c 1 + k1 : Nat) : Int) - 4))), some (.int (zI (((loD n c 2 + k2 : Nat) : Int) - 4))), some (.int (zI (((loD n c 3 + k3 : Nat) : Int) - 4)))] [] Md (L)) (fun k3 hk3 ih3 Md hI3 => ?_) (fun Md hI3 => ?_)) Mc ?_
        · refine tm_iload_6 65 rfl dX3_tryAll_63 ?_
          refine tm_aload_0 66 rfl dX3_tryAll_65 ?_
          refine tm_getr fl_X3_22 rfl rfl 69 rfl dX3_tryAll_66 ?_
          refine tm_iconst (3) rfl 70 rfl dX3_tryAll_69 ?_
          refine tm_ald rfl (ix := 3) ⟨by decide, by decide, by decide⟩ 71 rfl dX3_tryAll_70 ?_
          rw [hI3.2.2.1, hhi 3 (by decide)]
          refine tm_icmp_gt_f 74 (z_f hk3) rfl rfl dX3_tryAll_71 ?_
          refine tm_aload_0 75 rfl dX3_tryAll_74 ?_
          refine tm_getr fl_X3_25 rfl rfl 78 rfl dX3_tryAll_75 ?_
          refine tm_iconst (0) rfl 79 rfl dX3_tryAll_78 ?_
          refine tm_iload_3 80 rfl dX3_tryAll_79 ?_
          refine tm_ast rfl (ix := 0) ⟨by decide, by decide, by decide⟩ 81 rfl dX3_tryAll_80 ?_
          refine tm_aload_0 82 rfl dX3_tryAll_81 ?_
          refine tm_getr fl_X3_25 rfl rfl 85 rfl dX3_tryAll_82 ?_
          refine tm_iconst (1) rfl 86 rfl dX3_tryAll_85 ?_
          refine tm_iload_4 88 rfl dX3_tryAll_86 ?_
          refine tm_ast rfl (ix := 1) ⟨by decide, by decide, by decide⟩ 89 rfl dX3_tryAll_88 ?_
          refine tm_aload_0 90 rfl dX3_tryAll_89 ?_
          refine tm_getr fl_X3_25 rfl rfl 93 rfl dX3_tryAll_90 ?_
          refine tm_iconst (2) rfl 94 rfl dX3_tryAll_93 ?_
          refine tm_iload_5 96 rfl dX3_tryAll_94 ?_
          refine tm_ast rfl (ix := 2) ⟨by decide, by decide, by decide⟩ 97 rfl dX3_tryAll_96 ?_
          refine tm_aload_0 98 rfl dX3_tryAll_97 ?_
          refine tm_getr fl_X3_25 rfl rfl 101 rfl dX3_tryAll_98 ?_
          refine tm_iconst (3) rfl 102 rfl dX3_tryAll_101 ?_
          refine tm_iload_6 104 rfl dX3_tryAll_102 ?_
          refine tm_ast rfl (ix := 3) ⟨by decide, by decide, by decide⟩ 105 rfl dX3_tryAll_104 ?_
          refine tm_aload_0 106 rfl dX3_tryAll_105 ?_
          refine tm_iload_1 107 rfl dX3_tryAll_106 ?_
          refine tm_iload_2 108 rfl dX3_tryAll_107 ?_
          obtain ⟨dd0, dd1, dd2, dd3⟩ := dig4 (x0 := loD n c 0 + k0) (x1 := loD n c 1 + k1) (x2 := loD n c 2 + k2) (x3 := loD n c 3 + k3) (by have := D_rng n c 0; omega) (by have := D_rng n c 1; omega) (by have := D_rng n c 2; omega) (by have := D_rng n c 3; omega)
          refine tm_callVr_V (ci := 2) (c_X3_holdIfLess (i := 9 ^ (4 - 3) * (9 * (9 * (9 * 0 + (loD n c 0 + k0)) + (loD n c 1 + k1)) + (loD n c 2 + k2)) + (loD n c 3 + k3) * 9 ^ (3 - 3)) h4 hc (fun u hu => by
              rw [tried_4 u hu]
              rcases (show u = 0 ∨ u = 1 ∨ u = 2 ∨ u = 3 by omega) with rfl | rfl | rfl | rfl
              · rw [dd0]; rfl
              · rw [dd1]; rfl
              · rw [dd2]; rfl
              · rw [dd3]; rfl) (P2_in (fun v hv => by
              rcases (show v = 0 ∨ v = 1 ∨ v = 2 ∨ v = 3 by omega) with rfl | rfl | rfl | rfl
              · rw [dg_N dd0]; omega
              · rw [dg_N dd1]; omega
              · rw [dg_N dd2]; omega
              · rw [dg_N dd3]; omega)) ⟨by rw [s1_ne (by decide), s1_ne (by decide), s1_ne (by decide), s1_ne (by decide)]; exact hI3.2.2.2.1, fun j hj u hu => by rw [s1_ne (by decide), s1_ne (by decide), s1_ne (by decide), s1_ne (by decide)]; exact hI3.2.2.2.2 j hj u hu⟩) mv_X3_holdIfLess ml_X3_59 rfl rfl rfl rfl rfl (Nat.le_of_ble_eq_true rfl) 111 rfl dX3_tryAll_108 (fun M1 L1 hq => ?_)
          obtain ⟨rfl, f1, e3, e4, b1⟩ := hq
          refine tm_iinc_6 (zI (((loD n c 3 + (k3 + 1) : Nat) : Int) - 4)) (zinc4 _ k3) (by decide) rfl 114 rfl dX3_tryAll_111 ?_
          refine tm_goto 63 rfl dX3_tryAll_114 ?_
          exact ih3 M1 ⟨(((((hI3.1.s1 (i := 45) (by decide) (by decide) _ _).s1 (i := 45) (by decide) (by decide) _ _).s1 (i := 45) (by decide) (by decide) _ _).s1 (i := 45) (by decide) (by decide) _ _).tr f1), e3.trans (by rw [s1_ne (by decide), s1_ne (by decide), s1_ne (by decide), s1_ne (by decide)]; exact hI3.2.1), e4.trans (by rw [s1_ne (by decide), s1_ne (by decide), s1_ne (by decide), s1_ne (by decide)]; exact hI3.2.2.1), (by have e : 9 ^ (4 - 3) * (9 * (9 * (9 * 0 + (loD n c 0 + k0)) + (loD n c 1 + k1)) + (loD n c 2 + k2)) + (loD n c 3 + (k3 + 1)) * 9 ^ (3 - 3) = 9 ^ (4 - 3) * (9 * (9 * (9 * 0 + (loD n c 0 + k0)) + (loD n c 1 + k1)) + (loD n c 2 + k2)) + (loD n c 3 + k3) * 9 ^ (3 - 3) + 1 := (by simp only [show (9 : Nat) ^ (3 - 3) = 1 from rfl]; omega); rw [e]; exact b1)⟩
        · refine tm_iload_6 65 rfl dX3_tryAll_63 ?_
          refine tm_aload_0 66 rfl dX3_tryAll_65 ?_
          refine tm_getr fl_X3_22 rfl rfl 69 rfl dX3_tryAll_66 ?_
          refine tm_iconst (3) rfl 70 rfl dX3_tryAll_69 ?_
          refine tm_ald rfl (ix := 3) ⟨by decide, by decide, by decide⟩ 71 rfl dX3_tryAll_70 ?_
          rw [hI3.2.2.1, hhi 3 (by decide)]
          refine tm_icmp_gt_t 117 (z_t n c 3) rfl dX3_tryAll_71 ?_
          refine tm_iinc_5 (zI (((loD n c 2 + (k2 + 1) : Nat) : Int) - 4)) (zinc4 _ k2) (by decide) rfl 120 rfl dX3_tryAll_117 ?_
          refine tm_goto 44 rfl dX3_tryAll_120 ?_
          exact tm_wkr (ih2 Md ⟨hI3.1, hI3.2.1, hI3.2.2.1, (by have hb := hI3.2.2.2; rw [b_leave (by decide)] at hb; have e := idx_s (v := 2) (q := (9 * (9 * 0 + (loD n c 0 + k0)) + (loD n c 1 + k1))) (k := (loD n c 2 + k2)) (by decide); rw [show loD n c 2 + (k2 + 1) = loD n c 2 + k2 + 1 from rfl, ← e]; exact hb)⟩) (And.intro rfl (And.intro rfl (And.intro rfl (And.intro rfl (And.intro rfl (And.intro rfl trivial))))))
        · exact ⟨hI2.1, hI2.2.1, hI2.2.2.1, by rw [b_enter (by decide), idx_eq (v := 2) (q := (9 * (9 * 0 + (loD n c 0 + k0)) + (loD n c 1 + k1))) (k := (loD n c 2 + k2)) (by decide)]; exact hI2.2.2.2⟩
      · refine tm_iload_5 46 rfl dX3_tryAll_44 ?_
        refine tm_aload_0 47 rfl dX3_tryAll_46 ?_
        refine tm_getr fl_X3_22 rfl rfl 50 rfl dX3_tryAll_47 ?_
        refine tm_iconst (2) rfl 51 rfl dX3_tryAll_50 ?_
        refine tm_ald rfl (ix := 2) ⟨by decide, by decide, by decide⟩ 52 rfl dX3_tryAll_51 ?_
        rw [hI2.2.2.1, hhi 2 (by decide)]
        refine tm_icmp_gt_t 123 (z_t n c 2) rfl dX3_tryAll_52 ?_
        refine tm_iinc_4 (zI (((loD n c 1 + (k1 + 1) : Nat) : Int) - 4)) (zinc4 _ k1) (by decide) rfl 126 rfl dX3_tryAll_123 ?_
        refine tm_goto 25 rfl dX3_tryAll_126 ?_
        exact tm_wkr (ih1 Mc ⟨hI2.1, hI2.2.1, hI2.2.2.1, (by have hb := hI2.2.2.2; rw [b_leave (by decide)] at hb; have e := idx_s (v := 1) (q := (9 * 0 + (loD n c 0 + k0))) (k := (loD n c 1 + k1)) (by decide); rw [show loD n c 1 + (k1 + 1) = loD n c 1 + k1 + 1 from rfl, ← e]; exact hb)⟩) (And.intro rfl (And.intro rfl (And.intro rfl (And.intro rfl (And.intro rfl trivial)))))
      · exact ⟨hI1.1, hI1.2.1, hI1.2.2.1, by rw [b_enter (by decide), idx_eq (v := 1) (q := (9 * 0 + (loD n c 0 + k0))) (k := (loD n c 1 + k1)) (by decide)]; exact hI1.2.2.2⟩
    · refine tm_iload_4 27 rfl dX3_tryAll_25 ?_
      refine tm_aload_0 28 rfl dX3_tryAll_27 ?_
      refine tm_getr fl_X3_22 rfl rfl 31 rfl dX3_tryAll_28 ?_
      refine tm_iconst (1) rfl 32 rfl dX3_tryAll_31 ?_
      refine tm_ald rfl (ix := 1) ⟨by decide, by decide, by decide⟩ 33 rfl dX3_tryAll_32 ?_
      rw [hI1.2.2.1, hhi 1 (by decide)]
      refine tm_icmp_gt_t 129 (z_t n c 1) rfl dX3_tryAll_33 ?_
      refine tm_iinc_3 (zI (((loD n c 0 + (k0 + 1) : Nat) : Int) - 4)) (zinc4 _ k0) (by decide) rfl 132 rfl dX3_tryAll_129 ?_
      refine tm_goto 7 rfl dX3_tryAll_132 ?_
      exact tm_wkr (ih0 Mb ⟨hI1.1, hI1.2.1, hI1.2.2.1, (by have hb := hI1.2.2.2; rw [b_leave (by decide)] at hb; have e := idx_s (v := 0) (q := 0) (k := (loD n c 0 + k0)) (by decide); rw [show loD n c 0 + (k0 + 1) = loD n c 0 + k0 + 1 from rfl, ← e]; exact hb)⟩) (And.intro rfl (And.intro rfl (And.intro rfl (And.intro rfl trivial))))
    · exact ⟨hI0.1, hI0.2.1, hI0.2.2.1, by rw [b_enter (by decide), idx_eq (v := 0) (q := 0) (k := (loD n c 0 + k0)) (by decide)]; exact hI0.2.2.2⟩
  · refine tm_iload_3 8 rfl dX3_tryAll_7 ?_
    refine tm_aload_0 9 rfl dX3_tryAll_8 ?_
    refine tm_getr fl_X3_22 rfl rfl 12 rfl dX3_tryAll_9 ?_
    refine tm_iconst (0) rfl 13 rfl dX3_tryAll_12 ?_
    refine tm_ald rfl (ix := 0) ⟨by decide, by decide, by decide⟩ 14 rfl dX3_tryAll_13 ?_
    rw [hI0.2.2.1, hhi 0 (by decide)]
    refine tm_icmp_gt_t 135 (z_t n c 0) rfl dX3_tryAll_14 ?_
    exact tm_vretR ⟨rfl, hI0.1, by have hb := hI0.2.2.2; rw [b_leave (by decide)] at hb; exact hb⟩ dX3_tryAll_135
  · exact ⟨frS.rf, rfl, rfl, by rw [b_enter (by decide)]; exact hB⟩


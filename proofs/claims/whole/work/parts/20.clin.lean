theorem los_k {n c v : Nat} (h4 : n ≤ 4) (hc : c < 2 ^ 2 ^ n) (hv : v < n) : ((nI (tnd n c v) &&& (nI c ^^^ (-1))) &&& wv v) = nI (lsN n c v) := by
  have h16 := pow4 h4
  rw [wv_eq, show (-1 : Int32) = nI (2 ^ 32 - 1) from rfl, fb_xorI, fa_and, fa_and]
  congr 1
  refine bits_ext (N := 2 ^ n) ?_ (bits_lt _ _) (fun k hk => ?_)
  · exact Nat.lt_of_le_of_lt (Nat.le_trans Nat.and_le_left Nat.and_le_left) (tnd_lt n c v)
  · unfold lsN tnd
    rw [Nat.testBit_and, Nat.testBit_and, bits_test, bits_test, Nat.testBit_xor, Nat.testBit_two_pow_sub_one, wW_t v (by omega) k (by omega)]
    simp [hk, show k < 32 by omega, show k < 16 by omega]
theorem lsN_lt (n c v : Nat) : lsN n c v < 2 ^ 2 ^ n := bits_lt _ _
theorem WI_hi {r : Nat → Int} {k n : Nat} (hk : k < 2 ^ n) : ∀ m, WI r k (n + m) = WI r k n
  | 0 => rfl
  | m + 1 => by
    show WI r k (n + m) + (if k.testBit (n + m) then r (n + m) else 0) = _
    rw [WI_hi hk m, tb_hi hk (by omega)]
    simp
theorem tl_decB {n c : Nat} {wt : Nat → Int32} {r : Nat → Int} {a b : Int32} {A : Int} (ha : a.toInt = A) (hb : b.toInt = -A) (hA : 36 < A) (hw : ∀ k, k < 2 ^ n → (wt k).toInt = WI r k n ∧ -36 ≤ WI r k n ∧ WI r k n ≤ 36) :
    decide (gtF (fun k => !c.testBit k) wt b (2 ^ n) < lsF c.testBit wt a (2 ^ n)) = tlB n c r := by
  obtain ⟨l1, l2, l3⟩ := lsF_spec c.testBit wt a (2 ^ n)
  obtain ⟨g1, g2, g3⟩ := gtF_spec (fun k => !c.testBit k) wt b (2 ^ n)
  generalize lsF c.testBit wt a (2 ^ n) = x at l1 l2 l3 ⊢
  generalize gtF (fun k => !c.testBit k) wt b (2 ^ n) = y at g1 g2 g3 ⊢
  cases q : tlB n c r
  · apply decide_eq_false
    intro h
    rw [fa_lt] at h
    have : tlB n c r = true := tlB_iff.mpr (fun s hs hcs t ht hct => by
      have e1 := l1 s hs hcs
      have e2 := g1 t ht (by simp [hct])
      have := (hw s hs).1; have := (hw t ht).1
      omega)
    rw [q] at this
    cases this
  · apply decide_eq_true
    rw [fa_lt]
    have h := tlB_iff.mp q
    rcases l3 with e | ⟨s, s1, s2, s3⟩
    · rcases g3 with f | ⟨t, t1, t2, t3⟩
      · rw [e, f]; omega
      · have := hw t t1
        rw [e, t3]; omega
    · rcases g3 with f | ⟨t, t1, t2, t3⟩
      · have := hw s s1
        rw [s3, f]; omega
      · have := h s s1 s2 t t1 (by simpa using t2)
        have := hw s s1; have := hw t t1
        rw [s3, t3]; omega
/-- the class's scratch for weights: cells 41 .. 45 -/
def frS (M M' : MI) : Prop := ∀ i k, ¬ (41 ≤ i ∧ i ≤ 45) → M' i k = M i k
theorem frS.rf {M : MI} : frS M M := fun _ _ _ => rfl
theorem frS.tr {M M1 M2 : MI} (h : frS M M1) (h2 : frS M1 M2) : frS M M2 := fun i k q => (h2 i k q).trans (h i k q)
theorem frS.s1 {M M' : MI} (h : frS M M') {i : Nat} (h1 : 41 ≤ i) (h2 : i ≤ 45) (k : Nat) (x : Int32) : frS M (s1 M' i k x) := fun j u q => by rw [s1_ne (by omega)]; exact h j u q
theorem frS.sr {M M' : MI} (h : frS M M') {i : Nat} (h1 : 41 ≤ i) (h2 : i ≤ 45) (f : Nat → Int32) : frS M (sr M' i f) := fun j u q => by rw [sr_ne (by omega)]; exact h j u q
theorem frS.row {M M' : MI} (h : frS M M') {i : Nat} (h1 : ¬ (41 ≤ i ∧ i ≤ 45)) : M' i = M i := funext fun k => h i k h1
set_option maxRecDepth 100000 in
set_option maxHeartbeats 4000000 in
theorem c_X0_losesBy {g : GC} {d : Nat} {M : MI} {L : ML} {n c v : Nat} (h4 : n ≤ 4) (hc : c < 2 ^ 2 ^ n) (hv : v < n) : CfI g (d + 1) yX0_losesBy cX0_losesBy 2 .int [.int (nI c), .int (nI v)] M L (nI (lsN n c v)) (M) (L) := by
  refine cfI_of (own := RX0) (l := [some (.int (nI c)), some (.int (nI v))]) 0 rfl rfl rfl (Nat.le_of_ble_eq_true rfl) ?_
  refine tm_iload_0 1 rfl dX0_losesBy_0 ?_
  refine tm_iload_1 2 rfl dX0_losesBy_1 ?_
  refine tm_callS_I (c_X0_turned h4 hc hv) ms_X0_turned ml_X0_17 rfl rfl (Nat.le_of_ble_eq_true rfl) 5 rfl dX0_losesBy_2 ?_
  refine tm_iload_0 6 rfl dX0_losesBy_5 ?_
  refine tm_iconst (-1) rfl 7 rfl dX0_losesBy_6 ?_
  refine tm_ixor 8 rfl dX0_losesBy_7 ?_
  refine tm_iand 9 rfl dX0_losesBy_8 ?_
  refine tm_with wl_X0_7 12 rfl dX0_losesBy_9 ?_
  refine tm_iload_1 13 rfl dX0_losesBy_12 ?_
  refine tm_withAt (ix := v) (ix_nI (by omega) (by decide)) 14 rfl dX0_losesBy_13 ?_
  refine tm_iand 15 rfl dX0_losesBy_14 ?_
  exact tm_iret (los_k h4 hc hv) rfl rfl dX0_losesBy_15

set_option maxRecDepth 100000 in
set_option maxHeartbeats 4000000 in
theorem c_X0_winsBy {g : GC} {d : Nat} {M : MI} {L : ML} {n c v : Nat} (h4 : n ≤ 4) (hc : c < 2 ^ 2 ^ n) (hv : v < n) : CfI g (d + 2) yX0_winsBy cX0_winsBy 3 .int [.int (nI n), .int (nI c), .int (nI v)] M L (nI (lsN n (opN n c) v)) (M) (L) := by
  refine cfI_of (own := RX0) (l := [some (.int (nI n)), some (.int (nI c)), some (.int (nI v))]) 0 rfl rfl rfl (Nat.le_of_ble_eq_true rfl) ?_
  refine tm_iload_0 1 rfl dX0_winsBy_0 ?_
  refine tm_iload_1 2 rfl dX0_winsBy_1 ?_
  refine tm_callS_I (c_X0_opposite h4 hc) ms_X0_opposite ml_X0_21 rfl rfl (Nat.le_of_ble_eq_true rfl) 5 rfl dX0_winsBy_2 ?_
  refine tm_iload_2 6 rfl dX0_winsBy_5 ?_
  refine tm_callS_I (c_X0_losesBy h4 (opN_lt n c) hv) ms_X0_losesBy ml_X0_35 rfl rfl (Nat.le_of_ble_eq_true rfl) 9 rfl dX0_winsBy_6 ?_
  exact tm_iret rfl rfl rfl dX0_winsBy_9

def cpR (M : MI) (i j n : Nat) : MI := sr M j (fun k => if k < n then M i k else M j k)
theorem cpR_k (M : MI) (i j n : Nat) : sr M j (va_cpy (M i) (M j) 0 0 n) = cpR M i j n := by
  unfold cpR
  congr 1
  funext k
  unfold va_cpy
  by_cases h : k < n
  · simp [h]
  · simp [h]
set_option maxRecDepth 100000 in
set_option maxHeartbeats 4000000 in
theorem c_X4_copyRow {g : GC} {d : Nat} {M : MI} {L : ML} {i j n : Nat} (hi : shp i = some (.inr (0, n, []))) (hj : shp j = some (.inr (0, n, []))) (hn : n < 2 ^ 31) : CfV g (d + 1) yX4_copyRow cX4_copyRow 2 [rf g i, rf g j] M L (cpR M i j n) (L) := by
  refine cfV_of (own := RX4) (l := [some (rf g i), some (rf g j)]) 0 rfl rfl rfl (Nat.le_of_ble_eq_true rfl) ?_
  refine tm_aload_0 1 rfl dX4_copyRow_0 ?_
  refine tm_iconst (0) rfl 2 rfl dX4_copyRow_1 ?_
  refine tm_aload_1 3 rfl dX4_copyRow_2 ?_
  refine tm_iconst (0) rfl 4 rfl dX4_copyRow_3 ?_
  refine tm_aload_0 5 rfl dX4_copyRow_4 ?_
  refine tm_alenI hi 6 rfl dX4_copyRow_5 ?_
  refine tm_aload_1 7 rfl dX4_copyRow_6 ?_
  refine tm_alenI hj 8 rfl dX4_copyRow_7 ?_
  refine tm_callS_I (c_J9_min_7cf53) ms_J9_min_7cf53 ml_X4_51 rfl rfl (Nat.le_of_ble_eq_true rfl) 11 rfl dX4_copyRow_8 ?_
  rw [if_neg (fun q => (fa_of_lt q).2.2.2.1 rfl)]
  refine tm_cpI (ls_ := 0) (ld := 0) (ln := n) ml_X4_57 hi hj ⟨by decide, by decide⟩ ⟨by decide, by decide⟩ ⟨nI_pos hn, nI_clamp hn⟩ (by omega) (by omega) (Nat.le_of_ble_eq_true rfl) 14 rfl dX4_copyRow_11 ?_
  exact tm_vret (cpR_k M i j n) rfl dX4_copyRow_14

def sbM (M : MI) (n c k : Nat) : MI := sr (sr M 43 (fun u => if u < k then zI (loB n c u) else M 43 u)) 44 (fun u => if u < k then zI (hiB n c u) else M 44 u)
theorem sbM_0 (M : MI) (n c : Nat) : sbM M n c 0 = M := by
  unfold sbM
  have e1 : (fun u => if u < 0 then zI (loB n c u) else M 43 u) = M 43 := by funext u; simp
  rw [e1, sr_self]
  have e2 : (fun u => if u < 0 then zI (hiB n c u) else M 44 u) = M 44 := by funext u; simp
  rw [e2, sr_self]
theorem updif (f w : Nat → Int32) (k : Nat) : upd (fun u => if u < k then w u else f u) k (w k) = (fun u => if u < k + 1 then w u else f u) := by
  funext j
  unfold upd
  by_cases q : j = k
  · subst q; simp
  · by_cases q2 : j < k
    · simp [q, q2, show j < k + 1 by omega]
    · simp [q, q2, show ¬ j < k + 1 by omega]
theorem sbM_s (M : MI) (n c k : Nat) : s1 (s1 (sbM M n c k) 43 k (zI (loB n c k))) 44 k (zI (hiB n c k)) = sbM M n c (k + 1) := by
  have e3 : sbM M n c k 43 = (fun u => if u < k then zI (loB n c u) else M 43 u) := by unfold sbM; rw [sr_ne (by decide), sr_eq]
  have e4 : sbM M n c k 44 = (fun u => if u < k then zI (hiB n c u) else M 44 u) := by unfold sbM; rw [sr_eq]
  unfold s1
  rw [e3, sr_ne (show 44 ≠ 43 by decide), e4, updif _ (fun u => zI (loB n c u)), updif _ (fun u => zI (hiB n c u))]
  funext i
  by_cases h4 : i = 44
  · subst h4
    unfold sbM
    rw [sr_eq, sr_eq]
  · by_cases h3 : i = 43
    · subst h3
      unfold sbM
      rw [sr_ne h4, sr_eq, sr_ne h4, sr_eq]
    · unfold sbM
      rw [sr_ne h4, sr_ne h3, sr_ne h4, sr_ne h3, sr_ne h4, sr_ne h3]
theorem sbM_fr (M : MI) (n c k : Nat) : frS M (sbM M n c k) := (frS.rf.sr (i := 43) (by decide) (by decide) _).sr (i := 44) (by decide) (by decide) _
def winB (n c k : Nat) : Bool := decide (k < n) && !decide (lsN n (opN n c) k = 0)
def losB (n c k : Nat) : Bool := decide (k < n) && !decide (lsN n c k = 0)
theorem w_1 {n k : Nat} {c : Nat} (h : nI n ≤ nI k) (hn : n ≤ 4) (hk : k < 4) : bI (winB n c k) = 0 ∧ bI (losB n c k) = 0 := by
  have : ¬ k < n := by have := (nI_leI (by omega) (by omega)).mp h; omega
  unfold winB losB
  rw [decide_eq_false this]
  exact ⟨rfl, rfl⟩
theorem nI_z {x : Nat} (hx : x < 2 ^ 31) : nI x = 0 ↔ x = 0 := by rw [show (0 : Int32) = nI 0 from rfl]; exact nI_eq hx (by decide)
theorem w_2 {n c k : Nat} (h4 : n ≤ 4) (hk : k < n) (h : nI (lsN n (opN n c) k) = 0) : bI (winB n c k) = 0 := by
  have h65 := p65 h4
  have := (nI_z (by have := lsN_lt n (opN n c) k; omega)).mp h
  unfold winB; rw [this]; simp [bI]
theorem w_3 {n c k : Nat} (h4 : n ≤ 4) (hk : k < n) (h : ¬ nI (lsN n (opN n c) k) = 0) : bI (winB n c k) = 1 := by
  have h65 := p65 h4
  have : ¬ lsN n (opN n c) k = 0 := fun z => h ((nI_z (by have := lsN_lt n (opN n c) k; omega)).mpr z)
  unfold winB; rw [decide_eq_true hk, decide_eq_false this]; rfl
theorem w_4 {n c k : Nat} (h4 : n ≤ 4) (hk : k < n) (h : nI (lsN n c k) = 0) : bI (losB n c k) = 0 := by
  have h65 := p65 h4
  have := (nI_z (by have := lsN_lt n c k; omega)).mp h
  unfold losB; rw [this]; simp [bI]
theorem w_5 {n c k : Nat} (h4 : n ≤ 4) (hk : k < n) (h : ¬ nI (lsN n c k) = 0) : bI (losB n c k) = 1 := by
  have h65 := p65 h4
  have : ¬ lsN n c k = 0 := fun z => h ((nI_z (by have := lsN_lt n c k; omega)).mpr z)
  unfold losB; rw [decide_eq_true hk, decide_eq_false this]; rfl
theorem nlt_of {n k : Nat} (h : ¬ nI n ≤ nI k) (hn : n ≤ 4) (hk : k < 4) : k < n := by
  rcases Nat.lt_or_ge k n with q | q
  · exact q
  · exact absurd (nI_le q (by omega)) h
theorem lo_w {n c k : Nat} (h : winB n c k = true) : loB n c k = 1 ∧ hiB n c k = 4 := by
  unfold winB at h
  simp only [Bool.and_eq_true, decide_eq_true_eq, Bool.not_eq_true', decide_eq_false_iff_not] at h
  unfold loB hiB
  rw [if_pos h.1, if_neg h.2, if_pos h.1, if_neg h.2]
  exact ⟨rfl, rfl⟩
theorem lo_l {n c k : Nat} (h : winB n c k = false) (h2 : losB n c k = true) : loB n c k = -4 ∧ hiB n c k = -1 := by
  unfold losB at h2
  simp only [Bool.and_eq_true, decide_eq_true_eq, Bool.not_eq_true', decide_eq_false_iff_not] at h2
  unfold winB at h
  rw [decide_eq_true h2.1] at h
  simp only [Bool.true_and, Bool.not_eq_false', decide_eq_true_eq] at h
  unfold loB hiB
  rw [if_pos h2.1, if_pos h, if_neg h2.2, if_pos h2.1, if_pos h, if_neg h2.2]
  exact ⟨rfl, rfl⟩
theorem lo_n {n c k : Nat} (h : winB n c k = false) (h2 : losB n c k = false) : loB n c k = 0 ∧ hiB n c k = 0 := by
  unfold loB hiB
  by_cases q : k < n
  · unfold winB at h
    unfold losB at h2
    rw [decide_eq_true q] at h h2
    simp only [Bool.true_and, Bool.not_eq_false', decide_eq_true_eq] at h h2
    rw [if_pos q, if_pos h, if_pos h2, if_pos q, if_pos h, if_pos h2]
    exact ⟨rfl, rfl⟩
  · rw [if_neg q, if_neg q]
    exact ⟨rfl, rfl⟩
theorem both_no {n c k : Nat} (h : winB n c k = false ∨ losB n c k = false) : k < n → lsN n (opN n c) k = 0 ∨ lsN n c k = 0 := by
  intro q
  rcases h with h | h
  · unfold winB at h; rw [decide_eq_true q] at h
    exact Or.inl (by simpa using h)
  · unfold losB at h; rw [decide_eq_true q] at h
    exact Or.inr (by simpa using h)
theorem both_yes {n c k : Nat} (h : winB n c k = true) (h2 : losB n c k = true) : k < n ∧ ¬ lsN n (opN n c) k = 0 ∧ ¬ lsN n c k = 0 := by
  unfold winB at h
  unfold losB at h2
  simp only [Bool.and_eq_true, decide_eq_true_eq, Bool.not_eq_true', decide_eq_false_iff_not] at h h2
  exact ⟨h.1, h.2, h2.2⟩
theorem lt_s1 {P : Nat → Prop} {k : Nat} (h : ∀ u, u < k → P u) (hk : P k) : ∀ u, u < k + 1 → P u := fun u hu => by
  rcases Nat.lt_succ_iff_lt_or_eq.mp hu with q | q
  · exact h u q
  · exact q ▸ hk
set_option maxRecDepth 100000 in
set_option maxHeartbeats 4000000 in
theorem c_X3_setBounds {g : GC} {d : Nat} {M : MI} {L : ML} {n c : Nat} (h4 : n ≤ 4) (hc : c < 2 ^ 2 ^ n) : CrI g (d + 3) yX3_setBounds cX3_setBounds 6 .boolean [rf g 41, .int (nI n), .int (nI c)] M L (fun r M' L' => L' = L ∧ frS M M' ∧ ((r = 1 ∧ M' = sbM M n c 4 ∧ ∀ v, v < n → lsN n (opN n c) v = 0 ∨ lsN n c v = 0) ∨ (r = 0 ∧ ∃ v, v < n ∧ ¬ lsN n (opN n c) v = 0 ∧ ¬ lsN n c v = 0))) := by
  refine crI_of (own := RX3) (l := [some (rf g 41), some (.int (nI n)), some (.int (nI c)), none, none, none]) 3 rfl rfl rfl (Nat.le_of_ble_eq_true rfl) ?_
  refine tm_iconst (0) rfl 1 rfl dX3_setBounds_0 ?_
  refine tm_istore_3 (by decide) rfl 2 rfl dX3_setBounds_1 ?_
  refine tm_mem (sbM_0 M n c) rfl ?_
  refine tm_loopE (N := 4) (fun k => ∀ u, u < k → u < n → lsN n (opN n c) u = 0 ∨ lsN n c u = 0) (fun k => Tm g (d + 3) RX3 cX3_setBounds 6 (some .boolean) (QIr g (fun r M' L' => L' = L ∧ frS M M' ∧ ((r = 1 ∧ M' = sbM M n c 4 ∧ ∀ v, v < n → lsN n (opN n c) v = 0 ∨ lsN n c v = 0) ∨ (r = 0 ∧ ∃ v, v < n ∧ ¬ lsN n (opN n c) v = 0 ∧ ¬ lsN n c v = 0)))) 2 [some (rf g 41), some (.int (nI n)), some (.int (nI c)), some (.int (nI k)), none, none] [] (sbM M n c k) (L)) (fun u hu => absurd hu (by omega)) (fun k hk hP ih => ?_) (fun hPN => ?_)
  · refine tm_iload_3 3 rfl dX3_setBounds_2 ?_
    refine tm_iconst (4) rfl 4 rfl dX3_setBounds_3 ?_
    refine tm_icmp_ge_f 7 (nI_ge hk (by decide)) rfl rfl dX3_setBounds_4 ?_
    refine tm_iload_3 8 rfl dX3_setBounds_7 ?_
    refine tm_iload_1 9 rfl dX3_setBounds_8 ?_
    refine tm_join2 26 (bI (winB n c k)) ?_ (fun hJ26 => ?_)
    · refine tm_istore_4 (by decide) rfl 28 rfl dX3_setBounds_26 ?_
      refine tm_iload_3 29 rfl dX3_setBounds_28 ?_
      refine tm_iload_1 30 rfl dX3_setBounds_29 ?_
      refine tm_join2 46 (bI (losB n c k)) ?_ (fun hJ46 => ?_)
      · refine tm_istore_5 (by decide) rfl 48 rfl dX3_setBounds_46 ?_
        refine tm_iload_4 50 rfl dX3_setBounds_48 ?_
        refine tm_if_eq 60 53 rfl rfl dX3_setBounds_50 (fun h50 => ?_) (fun h50 => ?_)
        · refine tm_aload_0 61 rfl dX3_setBounds_60 ?_
          refine tm_getr fl_X3_19 rfl rfl 64 rfl dX3_setBounds_61 ?_
          refine tm_iload_3 65 rfl dX3_setBounds_64 ?_
          refine tm_iload_4 67 rfl dX3_setBounds_65 ?_
          refine tm_join1 85 (zI (loB n c k)) ?_ (fun hJ85 => ?_)
          · refine tm_ast rfl (ix := k) (ix_nI hk (by decide)) 86 rfl dX3_setBounds_85 ?_
            refine tm_aload_0 87 rfl dX3_setBounds_86 ?_
            refine tm_getr fl_X3_22 rfl rfl 90 rfl dX3_setBounds_87 ?_
            refine tm_iload_3 91 rfl dX3_setBounds_90 ?_
            refine tm_iload_4 93 rfl dX3_setBounds_91 ?_
            refine tm_join1 110 (zI (hiB n c k)) ?_ (fun hJ110 => ?_)
            · refine tm_ast rfl (ix := k) (ix_nI hk (by decide)) 111 rfl dX3_setBounds_110 ?_
              refine tm_iinc_3 (nI (k + 1)) (iinc1 k) (by decide) rfl 114 rfl dX3_setBounds_111 ?_
              refine tm_goto 2 rfl dX3_setBounds_114 ?_
              rw [sbM_s]
              exact tm_wkr (ih (lt_s1 hP (both_no (by first | exact Or.inl ((bI_0 _).mp h50) | exact Or.inr ((bI_0 _).mp h55))))) (And.intro rfl (And.intro rfl (And.intro rfl (And.intro rfl trivial))))
            · refine tm_if_eq 100 96 rfl rfl dX3_setBounds_93 (fun h93 => ?_) (fun h93 => ?_)
              · refine tm_iload_5 102 rfl dX3_setBounds_100 ?_
                refine tm_if_eq 109 105 rfl rfl dX3_setBounds_102 (fun h102 => ?_) (fun h102 => ?_)
                · refine tm_iconst (0) rfl 110 rfl dX3_setBounds_109 ?_
                  exact tm_top (by first | (rw [(lo_n ((bI_0 _).mp h93) ((bI_0 _).mp h102)).2]; rfl) | (rw [(lo_l ((bI_0 _).mp h93) ((bI_n0 _).mp h102)).2]; rfl) | (rw [(lo_w ((bI_n0 _).mp h93)).2]; rfl)) hJ110
                · refine tm_iconst (-1) rfl 106 rfl dX3_setBounds_105 ?_
                  refine tm_goto 110 rfl dX3_setBounds_106 ?_
                  exact tm_top (by first | (rw [(lo_n ((bI_0 _).mp h93) ((bI_0 _).mp h102)).2]; rfl) | (rw [(lo_l ((bI_0 _).mp h93) ((bI_n0 _).mp h102)).2]; rfl) | (rw [(lo_w ((bI_n0 _).mp h93)).2]; rfl)) hJ110
              · refine tm_iconst (4) rfl 97 rfl dX3_setBounds_96 ?_
                refine tm_goto 110 rfl dX3_setBounds_97 ?_
                exact tm_top (by first | (rw [(lo_n ((bI_0 _).mp h93) ((bI_0 _).mp h102)).2]; rfl) | (rw [(lo_l ((bI_0 _).mp h93) ((bI_n0 _).mp h102)).2]; rfl) | (rw [(lo_w ((bI_n0 _).mp h93)).2]; rfl)) hJ110
          · refine tm_if_eq 74 70 rfl rfl dX3_setBounds_67 (fun h67 => ?_) (fun h67 => ?_)
            · refine tm_iload_5 76 rfl dX3_setBounds_74 ?_
              refine tm_if_eq 84 79 rfl rfl dX3_setBounds_76 (fun h76 => ?_) (fun h76 => ?_)
              · refine tm_iconst (0) rfl 85 rfl dX3_setBounds_84 ?_
                exact tm_top (by first | (rw [(lo_n ((bI_0 _).mp h67) ((bI_0 _).mp h76)).1]; rfl) | (rw [(lo_l ((bI_0 _).mp h67) ((bI_n0 _).mp h76)).1]; rfl) | (rw [(lo_w ((bI_n0 _).mp h67)).1]; rfl)) hJ85
              · refine tm_bipush (-4) (by decide) 81 rfl dX3_setBounds_79 ?_
                refine tm_goto 85 rfl dX3_setBounds_81 ?_
                exact tm_top (by first | (rw [(lo_n ((bI_0 _).mp h67) ((bI_0 _).mp h76)).1]; rfl) | (rw [(lo_l ((bI_0 _).mp h67) ((bI_n0 _).mp h76)).1]; rfl) | (rw [(lo_w ((bI_n0 _).mp h67)).1]; rfl)) hJ85
            · refine tm_iconst (1) rfl 71 rfl dX3_setBounds_70 ?_
              refine tm_goto 85 rfl dX3_setBounds_71 ?_
              exact tm_top (by first | (rw [(lo_n ((bI_0 _).mp h67) ((bI_0 _).mp h76)).1]; rfl) | (rw [(lo_l ((bI_0 _).mp h67) ((bI_n0 _).mp h76)).1]; rfl) | (rw [(lo_w ((bI_n0 _).mp h67)).1]; rfl)) hJ85
        · refine tm_iload_5 55 rfl dX3_setBounds_53 ?_
          refine tm_if_eq 60 58 rfl rfl dX3_setBounds_55 (fun h55 => ?_) (fun h55 => ?_)
          · refine tm_aload_0 61 rfl dX3_setBounds_60 ?_
            refine tm_getr fl_X3_19 rfl rfl 64 rfl dX3_setBounds_61 ?_
            refine tm_iload_3 65 rfl dX3_setBounds_64 ?_
            refine tm_iload_4 67 rfl dX3_setBounds_65 ?_
            refine tm_join1 85 (zI (loB n c k)) ?_ (fun hJ85 => ?_)
            · refine tm_ast rfl (ix := k) (ix_nI hk (by decide)) 86 rfl dX3_setBounds_85 ?_
              refine tm_aload_0 87 rfl dX3_setBounds_86 ?_
              refine tm_getr fl_X3_22 rfl rfl 90 rfl dX3_setBounds_87 ?_
              refine tm_iload_3 91 rfl dX3_setBounds_90 ?_
              refine tm_iload_4 93 rfl dX3_setBounds_91 ?_
              refine tm_join1 110 (zI (hiB n c k)) ?_ (fun hJ110 => ?_)
              · refine tm_ast rfl (ix := k) (ix_nI hk (by decide)) 111 rfl dX3_setBounds_110 ?_
                refine tm_iinc_3 (nI (k + 1)) (iinc1 k) (by decide) rfl 114 rfl dX3_setBounds_111 ?_
                refine tm_goto 2 rfl dX3_setBounds_114 ?_
                rw [sbM_s]
                exact tm_wkr (ih (lt_s1 hP (both_no (by first | exact Or.inl ((bI_0 _).mp h50) | exact Or.inr ((bI_0 _).mp h55))))) (And.intro rfl (And.intro rfl (And.intro rfl (And.intro rfl trivial))))
              · refine tm_if_eq 100 96 rfl rfl dX3_setBounds_93 (fun h93 => ?_) (fun h93 => ?_)
                · refine tm_iload_5 102 rfl dX3_setBounds_100 ?_
                  refine tm_if_eq 109 105 rfl rfl dX3_setBounds_102 (fun h102 => ?_) (fun h102 => ?_)
                  · refine tm_iconst (0) rfl 110 rfl dX3_setBounds_109 ?_
                    exact tm_top (by first | (rw [(lo_n ((bI_0 _).mp h93) ((bI_0 _).mp h102)).2]; rfl) | (rw [(lo_l ((bI_0 _).mp h93) ((bI_n0 _).mp h102)).2]; rfl) | (rw [(lo_w ((bI_n0 _).mp h93)).2]; rfl)) hJ110
                  · refine tm_iconst (-1) rfl 106 rfl dX3_setBounds_105 ?_
                    refine tm_goto 110 rfl dX3_setBounds_106 ?_
                    exact tm_top (by first | (rw [(lo_n ((bI_0 _).mp h93) ((bI_0 _).mp h102)).2]; rfl) | (rw [(lo_l ((bI_0 _).mp h93) ((bI_n0 _).mp h102)).2]; rfl) | (rw [(lo_w ((bI_n0 _).mp h93)).2]; rfl)) hJ110
                · refine tm_iconst (4) rfl 97 rfl dX3_setBounds_96 ?_
                  refine tm_goto 110 rfl dX3_setBounds_97 ?_
                  exact tm_top (by first | (rw [(lo_n ((bI_0 _).mp h93) ((bI_0 _).mp h102)).2]; rfl) | (rw [(lo_l ((bI_0 _).mp h93) ((bI_n0 _).mp h102)).2]; rfl) | (rw [(lo_w ((bI_n0 _).mp h93)).2]; rfl)) hJ110
            · refine tm_if_eq 74 70 rfl rfl dX3_setBounds_67 (fun h67 => ?_) (fun h67 => ?_)
              · refine tm_iload_5 76 rfl dX3_setBounds_74 ?_
                refine tm_if_eq 84 79 rfl rfl dX3_setBounds_76 (fun h76 => ?_) (fun h76 => ?_)
                · refine tm_iconst (0) rfl 85 rfl dX3_setBounds_84 ?_
                  exact tm_top (by first | (rw [(lo_n ((bI_0 _).mp h67) ((bI_0 _).mp h76)).1]; rfl) | (rw [(lo_l ((bI_0 _).mp h67) ((bI_n0 _).mp h76)).1]; rfl) | (rw [(lo_w ((bI_n0 _).mp h67)).1]; rfl)) hJ85
                · refine tm_bipush (-4) (by decide) 81 rfl dX3_setBounds_79 ?_
                  refine tm_goto 85 rfl dX3_setBounds_81 ?_
                  exact tm_top (by first | (rw [(lo_n ((bI_0 _).mp h67) ((bI_0 _).mp h76)).1]; rfl) | (rw [(lo_l ((bI_0 _).mp h67) ((bI_n0 _).mp h76)).1]; rfl) | (rw [(lo_w ((bI_n0 _).mp h67)).1]; rfl)) hJ85
              · refine tm_iconst (1) rfl 71 rfl dX3_setBounds_70 ?_
                refine tm_goto 85 rfl dX3_setBounds_71 ?_
                exact tm_top (by first | (rw [(lo_n ((bI_0 _).mp h67) ((bI_0 _).mp h76)).1]; rfl) | (rw [(lo_l ((bI_0 _).mp h67) ((bI_n0 _).mp h76)).1]; rfl) | (rw [(lo_w ((bI_n0 _).mp h67)).1]; rfl)) hJ85
          · refine tm_iconst (0) rfl 59 rfl dX3_setBounds_58 ?_
            exact tm_zretR (by decide) ⟨rfl, sbM_fr _ _ _ _, Or.inr ⟨rfl, k, both_yes ((bI_n0 _).mp h50) ((bI_n0 _).mp h55)⟩⟩ dX3_setBounds_59
      · refine tm_icmp_ge 45 33 rfl rfl dX3_setBounds_30 (fun h30 => ?_) (fun h30 => ?_)
        · refine tm_iconst (0) rfl 46 rfl dX3_setBounds_45 ?_
          exact tm_top (by first | exact (w_1 h30 h4 hk).2 | exact w_4 h4 (nlt_of h30 h4 hk) h38 | exact w_5 h4 (nlt_of h30 h4 hk) h38) hJ46
        · refine tm_iload_2 34 rfl dX3_setBounds_33 ?_
          refine tm_iload_3 35 rfl dX3_setBounds_34 ?_
          refine tm_callS_I (c_X0_losesBy h4 hc (nlt_of h30 h4 hk)) ms_X0_losesBy ml_X3_55 rfl rfl (Nat.le_of_ble_eq_true rfl) 38 rfl dX3_setBounds_35 ?_
          refine tm_if_eq 45 41 rfl rfl dX3_setBounds_38 (fun h38 => ?_) (fun h38 => ?_)
          · refine tm_iconst (0) rfl 46 rfl dX3_setBounds_45 ?_
            exact tm_top (by first | exact (w_1 h30 h4 hk).2 | exact w_4 h4 (nlt_of h30 h4 hk) h38 | exact w_5 h4 (nlt_of h30 h4 hk) h38) hJ46
          · refine tm_iconst (1) rfl 42 rfl dX3_setBounds_41 ?_
            refine tm_goto 46 rfl dX3_setBounds_42 ?_
            exact tm_top (by first | exact (w_1 h30 h4 hk).2 | exact w_4 h4 (nlt_of h30 h4 hk) h38 | exact w_5 h4 (nlt_of h30 h4 hk) h38) hJ46
    · refine tm_icmp_ge 25 12 rfl rfl dX3_setBounds_9 (fun h9 => ?_) (fun h9 => ?_)
      · refine tm_iconst (0) rfl 26 rfl dX3_setBounds_25 ?_
        exact tm_top (by first | exact (w_1 h9 h4 hk).1 | exact w_2 h4 (nlt_of h9 h4 hk) h18 | exact w_3 h4 (nlt_of h9 h4 hk) h18) hJ26
      · refine tm_iload_1 13 rfl dX3_setBounds_12 ?_
        refine tm_iload_2 14 rfl dX3_setBounds_13 ?_
        refine tm_iload_3 15 rfl dX3_setBounds_14 ?_
        refine tm_callS_I (c_X0_winsBy h4 hc (nlt_of h9 h4 hk)) ms_X0_winsBy ml_X3_49 rfl rfl (Nat.le_of_ble_eq_true rfl) 18 rfl dX3_setBounds_15 ?_
        refine tm_if_eq 25 21 rfl rfl dX3_setBounds_18 (fun h18 => ?_) (fun h18 => ?_)
        · refine tm_iconst (0) rfl 26 rfl dX3_setBounds_25 ?_
          exact tm_top (by first | exact (w_1 h9 h4 hk).1 | exact w_2 h4 (nlt_of h9 h4 hk) h18 | exact w_3 h4 (nlt_of h9 h4 hk) h18) hJ26
        · refine tm_iconst (1) rfl 22 rfl dX3_setBounds_21 ?_
          refine tm_goto 26 rfl dX3_setBounds_22 ?_
          exact tm_top (by first | exact (w_1 h9 h4 hk).1 | exact w_2 h4 (nlt_of h9 h4 hk) h18 | exact w_3 h4 (nlt_of h9 h4 hk) h18) hJ26
  · refine tm_iload_3 3 rfl dX3_setBounds_2 ?_
    refine tm_iconst (4) rfl 4 rfl dX3_setBounds_3 ?_
    refine tm_icmp_ge_t 117 (nI_le (Nat.le_refl 4) (by decide)) rfl dX3_setBounds_4 ?_
    refine tm_iconst (1) rfl 118 rfl dX3_setBounds_117 ?_
    exact tm_zretR (by decide) ⟨rfl, sbM_fr _ _ _ _, Or.inl ⟨rfl, rfl, fun v hv => hPN v (by omega) hv⟩⟩ dX3_setBounds_118

def dvM (M : MI) (wt : Nat → Int32) (c k : Nat) : MI := s1 (s1 M 41 6 (lsF c.testBit wt 1000 k)) 41 7 (gtF (fun k => !c.testBit k) wt (-1000) k)
theorem dvM_ne {M : MI} {wt : Nat → Int32} {c k i : Nat} (h : i ≠ 41) : dvM M wt c k i = M i := by unfold dvM; rw [s1_ne h, s1_ne h]
theorem dvM_6 (M : MI) (wt : Nat → Int32) (c k : Nat) : dvM M wt c k 41 6 = lsF c.testBit wt 1000 k := by unfold dvM; rw [s1_nk (by decide), s1_eq]
theorem dvM_7 (M : MI) (wt : Nat → Int32) (c k : Nat) : dvM M wt c k 41 7 = gtF (fun k => !c.testBit k) wt (-1000) k := by unfold dvM; rw [s1_eq]
theorem dvM_k {M : MI} {wt : Nat → Int32} {c k q : Nat} (h6 : q ≠ 6) (h7 : q ≠ 7) : dvM M wt c k 41 q = M 41 q := by unfold dvM; rw [s1_nk h7, s1_nk h6]
theorem dvM_fr (M : MI) (wt : Nat → Int32) (c k : Nat) : frS M (dvM M wt c k) := fun i j q => by rw [dvM_ne (by omega)]
theorem dv_y {M : MI} {wt : Nat → Int32} {c k : Nat} (h : bI (c.testBit k) = 1) : s1 (dvM M wt c k) 41 6 (if wt k < lsF c.testBit wt 1000 k then wt k else lsF c.testBit wt 1000 k) = dvM M wt c (k + 1) := by
  have hb := (bI_1 _).mp h
  have e1 : lsF c.testBit wt 1000 (k + 1) = if wt k < lsF c.testBit wt 1000 k then wt k else lsF c.testBit wt 1000 k := by
    show (if _ then _ else _) = _
    by_cases q : wt k < lsF c.testBit wt 1000 k
    · rw [if_pos ⟨hb, q⟩, if_pos q]
    · rw [if_neg (fun z => q z.2), if_neg q]
  have e2 : gtF (fun k => !c.testBit k) wt (-1000) (k + 1) = gtF (fun k => !c.testBit k) wt (-1000) k := if_neg (fun z => by have := z.1; simp [hb] at this)
  unfold dvM
  rw [e1, e2]
  funext i q
  simp only [s1_at]
  by_cases hi : i = 41
  · by_cases h6 : q = 6
    · subst h6; simp [hi]
    · simp [h6]
  · simp [hi]
theorem dv_n {M : MI} {wt : Nat → Int32} {c k : Nat} (h : ¬ bI (c.testBit k) = 1) : s1 (dvM M wt c k) 41 7 (if gtF (fun k => !c.testBit k) wt (-1000) k < wt k then wt k else gtF (fun k => !c.testBit k) wt (-1000) k) = dvM M wt c (k + 1) := by
  have hb := (bI_n1 _).mp h
  have e1 : lsF c.testBit wt 1000 (k + 1) = lsF c.testBit wt 1000 k := if_neg (fun z => by rw [hb] at z; exact absurd z.1 (by decide))
  have e2 : gtF (fun k => !c.testBit k) wt (-1000) (k + 1) = if gtF (fun k => !c.testBit k) wt (-1000) k < wt k then wt k else gtF (fun k => !c.testBit k) wt (-1000) k := by
    show (if _ then _ else _) = _
    by_cases q : gtF (fun k => !c.testBit k) wt (-1000) k < wt k
    · rw [if_pos ⟨by simp [hb], q⟩, if_pos q]
    · rw [if_neg (fun z => q z.2), if_neg q]
  unfold dvM
  rw [e1, e2]
  funext i q
  simp only [s1_at]
  by_cases hi : i = 41
  · by_cases h7 : q = 7
    · subst h7; simp [hi]
    · simp [h7]
  · simp [hi]
set_option maxRecDepth 100000 in
set_option maxHeartbeats 4000000 in
theorem c_X3_divides {g : GC} {d : Nat} {M : MI} {L : ML} {n c j : Nat} (hj : shp j = some (.inr (0, 4, []))) (hj2 : j ≠ 41) (h4 : n ≤ 4) (hc : c < 2 ^ 31) : CfI g (d + 1) yX3_divides cX3_divides 6 .boolean [rf g 41, rf g j, .int (nI n), .int (nI c)] M L (bI (decide (gtF (fun k => !c.testBit k) (fun k => wth (M j) k 4) (-1000) (2 ^ n) < lsF c.testBit (fun k => wth (M j) k 4) 1000 (2 ^ n)))) (dvM M (fun k => wth (M j) k 4) c (2 ^ n)) (L) := by
  have h16 := pow4 h4
  refine cfI_of (own := RX3) (l := [some (rf g 41), some (rf g j), some (.int (nI n)), some (.int (nI c)), none, none]) 2 rfl rfl rfl (Nat.le_of_ble_eq_true rfl) ?_
  refine tm_aload_0 1 rfl dX3_divides_0 ?_
  refine tm_sipush (1000) (by decide) 4 rfl dX3_divides_1 ?_
  refine tm_puti fl_X3_31 fw_2_6 rfl rfl rfl rfl 7 rfl dX3_divides_4 ?_
  refine tm_aload_0 8 rfl dX3_divides_7 ?_
  refine tm_sipush (-1000) (by decide) 11 rfl dX3_divides_8 ?_
  refine tm_puti fl_X3_34 fw_2_7 rfl rfl rfl rfl 14 rfl dX3_divides_11 ?_
  refine tm_iconst (0) rfl 15 rfl dX3_divides_14 ?_
  refine tm_istore_4 (by decide) rfl 17 rfl dX3_divides_15 ?_
  refine tm_loop (N := 2 ^ n) (fun k => Tm g (d + 1) RX3 cX3_divides 6 (some .boolean) (QI g (bI (decide (gtF (fun k => !c.testBit k) (fun k => wth (M j) k 4) (-1000) (2 ^ n) < lsF c.testBit (fun k => wth (M j) k 4) 1000 (2 ^ n)))) (dvM M (fun k => wth (M j) k 4) c (2 ^ n)) (L)) 17 [some (rf g 41), some (rf g j), some (.int (nI n)), some (.int (nI c)), some (.int (nI k)), none] [] (dvM M (fun k => wth (M j) k 4) c k) (L)) (fun k hk ih => ?_) ?_
  · refine tm_iload_4 19 rfl dX3_divides_17 ?_
    refine tm_iconst (1) rfl 20 rfl dX3_divides_19 ?_
    refine tm_iload_2 21 rfl dX3_divides_20 ?_
    refine tm_ishl 22 rfl dX3_divides_21 ?_
    rw [sh_1 n (by omega)]
    refine tm_icmp_ge_f 25 (nI_ge hk (by omega)) rfl rfl dX3_divides_22 ?_
    refine tm_aload_1 26 rfl dX3_divides_25 ?_
    refine tm_iload_4 28 rfl dX3_divides_26 ?_
    refine tm_callS_I (c_X3_worth hj (k := k) (by omega)) ms_X3_worth ml_X3_74 rfl rfl (Nat.le_of_ble_eq_true rfl) 31 rfl dX3_divides_28 ?_
    rw [dvM_ne hj2]
    refine tm_istore_5 (by decide) rfl 33 rfl dX3_divides_31 ?_
    refine tm_iload_3 34 rfl dX3_divides_33 ?_
    refine tm_iload_4 36 rfl dX3_divides_34 ?_
    refine tm_callS_I (c_X0_says hc (k := k) (by omega)) ms_X0_says ml_X3_78 rfl rfl (Nat.le_of_ble_eq_true rfl) 39 rfl dX3_divides_36 ?_
    refine tm_iconst (1) rfl 40 rfl dX3_divides_39 ?_
    refine tm_icmp_ne 59 43 rfl rfl dX3_divides_40 (fun h40 => ?_) (fun h40 => ?_)
    · refine tm_aload_0 60 rfl dX3_divides_59 ?_
      refine tm_aload_0 61 rfl dX3_divides_60 ?_
      refine tm_geti fl_X3_34 rfl rfl 64 rfl dX3_divides_61 ?_
      rw [dvM_7]
      refine tm_iload_5 66 rfl dX3_divides_64 ?_
      refine tm_callS_I (c_J9_max_7cf53) ms_J9_max_7cf53 ml_X3_84 rfl rfl (Nat.le_of_ble_eq_true rfl) 69 rfl dX3_divides_66 ?_
      refine tm_puti fl_X3_34 fw_2_7 rfl rfl rfl rfl 72 rfl dX3_divides_69 ?_
      try rw [dv_n (wt := (fun k => wth (M j) k 4)) h40]
      refine tm_iinc_4 (nI (k + 1)) (iinc1 k) (by decide) rfl 75 rfl dX3_divides_72 ?_
      refine tm_goto 17 rfl dX3_divides_75 ?_
      exact tm_wkr ih (And.intro rfl (And.intro rfl (And.intro rfl (And.intro rfl (And.intro rfl trivial)))))
    · refine tm_aload_0 44 rfl dX3_divides_43 ?_
      refine tm_aload_0 45 rfl dX3_divides_44 ?_
      refine tm_geti fl_X3_31 rfl rfl 48 rfl dX3_divides_45 ?_
      rw [dvM_6]
      refine tm_iload_5 50 rfl dX3_divides_48 ?_
      refine tm_callS_I (c_J9_min_7cf53) ms_J9_min_7cf53 ml_X3_81 rfl rfl (Nat.le_of_ble_eq_true rfl) 53 rfl dX3_divides_50 ?_
      refine tm_puti fl_X3_31 fw_2_6 rfl rfl rfl rfl 56 rfl dX3_divides_53 ?_
      rw [dv_y (wt := (fun k => wth (M j) k 4)) h40]
      refine tm_goto 72 rfl dX3_divides_56 ?_
      try rw [dv_n (wt := (fun k => wth (M j) k 4)) h40]
      refine tm_iinc_4 (nI (k + 1)) (iinc1 k) (by decide) rfl 75 rfl dX3_divides_72 ?_
      refine tm_goto 17 rfl dX3_divides_75 ?_
      exact tm_wkr ih (And.intro rfl (And.intro rfl (And.intro rfl (And.intro rfl (And.intro rfl trivial)))))
  · refine tm_iload_4 19 rfl dX3_divides_17 ?_
    refine tm_iconst (1) rfl 20 rfl dX3_divides_19 ?_
    refine tm_iload_2 21 rfl dX3_divides_20 ?_
    refine tm_ishl 22 rfl dX3_divides_21 ?_
    rw [sh_1 n (by omega)]
    refine tm_icmp_ge_t 78 (nI_le (Nat.le_refl _) (by omega)) rfl dX3_divides_22 ?_
    refine tm_aload_0 79 rfl dX3_divides_78 ?_
    refine tm_geti fl_X3_31 rfl rfl 82 rfl dX3_divides_79 ?_
    rw [dvM_6]
    refine tm_aload_0 83 rfl dX3_divides_82 ?_
    refine tm_geti fl_X3_34 rfl rfl 86 rfl dX3_divides_83 ?_
    rw [dvM_7]
    refine tm_icmp_le 93 89 rfl rfl dX3_divides_86 (fun h86 => ?_) (fun h86 => ?_)
    · refine tm_iconst (0) rfl 94 rfl dX3_divides_93 ?_
      exact tm_zret (by decide) (by first | (rw [decide_eq_false (fun q => (fa_of_lt q).2.1 h86)]; rfl) | (rw [decide_eq_true (fa_of_nle h86)]; rfl)) rfl rfl dX3_divides_94
    · refine tm_iconst (1) rfl 90 rfl dX3_divides_89 ?_
      refine tm_goto 94 rfl dX3_divides_90 ?_
      exact tm_zret (by decide) (by first | (rw [decide_eq_false (fun q => (fa_of_lt q).2.1 h86)]; rfl) | (rw [decide_eq_true (fa_of_nle h86)]; rfl)) rfl rfl dX3_divides_94


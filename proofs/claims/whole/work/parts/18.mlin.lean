def zI (z : Int) : Int32 := Int32.ofInt z
theorem zI_t {z : Int} (h1 : -2147483648 ≤ z) (h2 : z < 2147483648) : (zI z).toInt = z := fb_ofI h1 h2
theorem zI_nI (n : Nat) : zI (n : Int) = nI n := by
  show Int32.ofInt (n : Int) = Int32.ofNat n
  exact Int32.ofInt_eq_ofNat
theorem zI_dg (i v : Nat) : (zI (dg i v)).toInt = dg i v := by
  have := dg_rng i v
  exact zI_t (by omega) (by omega)
def sv (i : Nat) : Nat → Nat
  | 0 => 0
  | v + 1 => sv i v + (dg i v).natAbs
theorem sv_4 (i : Nat) : sv i 4 = sm i := by simp [sv, sm]
theorem sv_congr {i j : Nat} : ∀ {v : Nat}, (∀ u, u < v → dg i u = dg j u) → sv i v = sv j v
  | 0, _ => rfl
  | v + 1, h => by
    unfold sv
    rw [sv_congr (fun u hu => h u (by omega)), h v (by omega)]
theorem sv_le (i : Nat) : ∀ v, sv i v ≤ 4 * v
  | 0 => Nat.le_refl _
  | v + 1 => by
    have h := sv_le i v
    have := dg_rng i v
    unfold sv
    omega
theorem dig_step {v k q : Nat} (hv : v < 4) (hk : k < 9) : (∀ u, u < v → dg (9 ^ (4 - v) * q + k * 9 ^ (3 - v)) u = dg (9 ^ (4 - v) * q) u) ∧ dg (9 ^ (4 - v) * q + k * 9 ^ (3 - v)) v = (k : Int) - 4 := by
  unfold dg
  rcases (show v = 0 ∨ v = 1 ∨ v = 2 ∨ v = 3 by omega) with rfl | rfl | rfl | rfl
  · refine ⟨fun u hu => absurd hu (by omega), ?_⟩
    rw [dgN_0]
    simp only [Nat.sub_zero, show (9 : Nat) ^ 4 = 6561 from rfl, show (9 : Nat) ^ 3 = 729 from rfl]
    omega
  · simp only [show (9 : Nat) ^ (4 - 1) = 729 from rfl, show (9 : Nat) ^ (3 - 1) = 81 from rfl]
    refine ⟨fun u hu => ?_, ?_⟩
    · rcases (show u = 0 by omega) with rfl
      rw [dgN_0, dgN_0]; omega
    · rw [dgN_1]; omega
  · simp only [show (9 : Nat) ^ (4 - 2) = 81 from rfl, show (9 : Nat) ^ (3 - 2) = 9 from rfl]
    refine ⟨fun u hu => ?_, ?_⟩
    · rcases (show u = 0 ∨ u = 1 by omega) with rfl | rfl
      · rw [dgN_0, dgN_0]; omega
      · rw [dgN_1, dgN_1]; omega
    · rw [dgN_2]; omega
  · simp only [show (9 : Nat) ^ (4 - 3) = 9 from rfl, show (9 : Nat) ^ (3 - 3) = 1 from rfl, Nat.mul_one]
    refine ⟨fun u hu => ?_, ?_⟩
    · rcases (show u = 0 ∨ u = 1 ∨ u = 2 by omega) with rfl | rfl | rfl
      · rw [dgN_0, dgN_0]; omega
      · rw [dgN_1, dgN_1]; omega
      · rw [dgN_2, dgN_2]; omega
    · rw [dgN_3]; omega
def midN (n : Nat) : Nat := (9 ^ (4 - n) - 1) / 2
theorem mid_2 (n : Nat) (h2 : 2 ≤ n) (h4 : n ≤ 4) : 2 * midN n + 1 = 9 ^ (4 - n) := by
  rcases (show n = 2 ∨ n = 3 ∨ n = 4 by omega) with rfl | rfl | rfl <;> decide
/-- of the rows that begin alike only the one with 0 behind voter n counts -/
theorem mid_dg {n q : Nat} (h2 : 2 ≤ n) (h4 : n ≤ 4) : (∀ u, u < n → dg (9 ^ (4 - n) * q + midN n) u = dg (9 ^ (4 - n) * q) u) ∧ (∀ u, u < 4 → n ≤ u → dg (9 ^ (4 - n) * q + midN n) u = 0) ∧ ∀ j, 9 ^ (4 - n) * q ≤ j → j < 9 ^ (4 - n) * q + 9 ^ (4 - n) → (∀ u, u < 4 → n ≤ u → dg j u = 0) → j = 9 ^ (4 - n) * q + midN n := by
  unfold dg
  rcases (show n = 2 ∨ n = 3 ∨ n = 4 by omega) with rfl | rfl | rfl
  · rw [show midN 2 = 40 from rfl]
    simp only [show (9 : Nat) ^ (4 - 2) = 81 from rfl]
    refine ⟨fun u hu => ?_, fun u hu hn => ?_, fun j h1 h3 h => ?_⟩
    · rcases (show u = 0 ∨ u = 1 by omega) with rfl | rfl
      · rw [dgN_0, dgN_0]; omega
      · rw [dgN_1, dgN_1]; omega
    · rcases (show u = 2 ∨ u = 3 by omega) with rfl | rfl
      · rw [dgN_2]; omega
      · rw [dgN_3]; omega
    · have a := h 2 (by omega) (by omega)
      have b := h 3 (by omega) (by omega)
      rw [dgN_2] at a
      rw [dgN_3] at b
      omega
  · rw [show midN 3 = 4 from rfl]
    simp only [show (9 : Nat) ^ (4 - 3) = 9 from rfl]
    refine ⟨fun u hu => ?_, fun u hu hn => ?_, fun j h1 h3 h => ?_⟩
    · rcases (show u = 0 ∨ u = 1 ∨ u = 2 by omega) with rfl | rfl | rfl
      · rw [dgN_0, dgN_0]; omega
      · rw [dgN_1, dgN_1]; omega
      · rw [dgN_2, dgN_2]; omega
    · rcases (show u = 3 by omega) with rfl
      rw [dgN_3]; omega
    · have b := h 3 (by omega) (by omega)
      rw [dgN_3] at b
      omega
  · rw [show midN 4 = 0 from rfl]
    simp only [show (9 : Nat) ^ (4 - 4) = 1 from rfl]
    refine ⟨fun u hu => rfl, fun u hu hn => absurd hn (by omega), fun j h1 h3 h => by omega⟩
theorem mid_sm {n q : Nat} (h2 : 2 ≤ n) (h4 : n ≤ 4) : sm (9 ^ (4 - n) * q + midN n) = sv (9 ^ (4 - n) * q) n := by
  obtain ⟨a, b, -⟩ := mid_dg (q := q) h2 h4
  rw [← sv_congr a, ← sv_4]
  have : ∀ m, n + m ≤ 4 → sv (9 ^ (4 - n) * q + midN n) (n + m) = sv (9 ^ (4 - n) * q + midN n) n := by
    intro m
    induction m with
    | zero => intro _; rfl
    | succ m ih =>
      intro h
      show sv _ (n + m) + (dg _ (n + m)).natAbs = _
      rw [ih (by omega), b (n + m) (by omega) (by omega)]
      rfl
  have := this (4 - n) (by omega)
  rwa [show n + (4 - n) = 4 by omega] at this
theorem bst_leaf {P : Nat → Bool} {I m N : Nat} (hN : 2 * m + 1 = N) (h : ∀ j, I ≤ j → j < I + N → j ≠ I + m → P j = false) : bst P (I + N) = (match bst P I with | none => if P (I + m) then some (I + m) else none | some j => if P (I + m) && decide (sm (I + m) < sm j) then some (I + m) else some j) := by
  have e1 := bst_skip (P := P) (a := I + m + 1) m (fun j a b => h j (by omega) (by omega) (by omega))
  have e2 := bst_skip (P := P) (a := I) m (fun j a b => h j (by omega) (by omega) (by omega))
  rw [show I + m + 1 + m = I + N by omega] at e1
  rw [e1]
  have e : bst P (I + m + 1) = (match bst P (I + m) with | none => if P (I + m) then some (I + m) else none | some j => if P (I + m) && decide (sm (I + m) < sm j) then some (I + m) else some j) := rfl
  rw [e, e2]
theorem mid_P1 {n c q : Nat} (h2 : 2 ≤ n) (h4 : n ≤ 4) : P1 n c (9 ^ (4 - n) * q + midN n) = tlB n c (dg (9 ^ (4 - n) * q)) := by
  obtain ⟨a, b, -⟩ := mid_dg (q := q) h2 h4
  rw [← tlB_congr (n := n) (c := c) a]
  cases z : tlB n c (dg (9 ^ (4 - n) * q + midN n))
  · cases y : P1 n c (9 ^ (4 - n) * q + midN n)
    · rfl
    · have := (P1_iff.mp y).2
      rw [z] at this; cases this
  · exact P1_iff.mpr ⟨b, z⟩
theorem bst_mid {n c q : Nat} (h2 : 2 ≤ n) (h4 : n ≤ 4) : bst (P1 n c) (9 ^ (4 - n) * q + 9 ^ (4 - n)) = (match bst (P1 n c) (9 ^ (4 - n) * q) with | none => if tlB n c (dg (9 ^ (4 - n) * q)) then some (9 ^ (4 - n) * q + midN n) else none | some j => if tlB n c (dg (9 ^ (4 - n) * q)) && decide (sv (9 ^ (4 - n) * q) n < sm j) then some (9 ^ (4 - n) * q + midN n) else some j) := by
  rw [bst_leaf (m := midN n) (mid_2 n h2 h4) (fun j a b e => ?_), mid_P1 h2 h4, mid_sm h2 h4]
  cases y : P1 n c j
  · rfl
  · exact absurd ((mid_dg (q := q) h2 h4).2.2 j a b (P1_iff.mp y).1) e
/-- the model's scratch: row, best, bestSum -/
def frM (M M' : MI) : Prop := ∀ i k, ¬ (i = 57 ∨ i = 58 ∨ (i = 54 ∧ k = 5)) → M' i k = M i k
theorem frM.rf {M : MI} : frM M M := fun _ _ _ => rfl
theorem frM.tr {M M1 M2 : MI} (h : frM M M1) (h2 : frM M1 M2) : frM M M2 := fun i k q => (h2 i k q).trans (h i k q)
theorem frM.row {M M' : MI} (h : frM M M') {i : Nat} (h1 : i ≠ 57) (h2 : i ≠ 58) (h3 : i ≠ 54) : M' i = M i := funext fun k => h i k (by omega)
theorem frM.s1a {M M' : MI} (h : frM M M') (k : Nat) (x : Int32) : frM M (s1 M' 57 k x) := fun i j q => by rw [s1_ne (by omega)]; exact h i j q
def stB (n : Nat) (M : MI) (b : Option Nat) : Prop := match b with
  | none => M 54 5 = -1
  | some j => M 54 5 = nI (sm j) ∧ ∀ u, u < n → M 58 u = zI (dg j u)
theorem sm_le (j : Nat) : sm j ≤ 16 := by
  have := sv_le j 4
  rw [sv_4] at this
  omega
def cpB (M : MI) (x : Int32) (k : Nat) : MI := sr (s1 M 54 5 x) 58 (fun u => if u < k then M 57 u else M 58 u)
theorem cpB_0 (M : MI) (x : Int32) : s1 M 54 5 x = cpB M x 0 := by
  unfold cpB
  have e : (fun u => if u < 0 then M 57 u else M 58 u) = s1 M 54 5 x 58 := by
    rw [s1_ne (by decide)]; funext u; simp
  rw [e, sr_self]
theorem cpB_57 (M : MI) (x : Int32) (k : Nat) : cpB M x k 57 = M 57 := by unfold cpB; rw [sr_ne (by decide), s1_ne (by decide)]
theorem cpB_55 (M : MI) (x : Int32) (k : Nat) : cpB M x k 55 = M 55 := by unfold cpB; rw [sr_ne (by decide), s1_ne (by decide)]
theorem cpB_s (M : MI) (x : Int32) (k : Nat) : s1 (cpB M x k) 58 k (M 57 k) = cpB M x (k + 1) := by
  have e : cpB M x k 58 = (fun u => if u < k then M 57 u else M 58 u) := sr_eq _ _ _
  unfold s1
  rw [e]
  unfold cpB
  funext i
  by_cases h : i = 58
  · subst h
    rw [sr_eq, sr_eq]
    funext j
    unfold upd
    by_cases q : j = k
    · subst q; simp
    · by_cases q2 : j < k
      · simp [q, q2, show j < k + 1 by omega]
      · simp [q, q2, show ¬ j < k + 1 by omega]
  · rw [sr_ne h, sr_ne h, sr_ne h]
theorem cpB_fr (M : MI) (x : Int32) (k : Nat) : frM M (cpB M x k) := fun i j q => by
  unfold cpB
  rw [sr_ne (by omega)]
  by_cases h : i = 54
  · subst h; rw [s1_nk (by omega)]
  · rw [s1_ne h]
theorem cpB_st {n j : Nat} {M : MI} (h : ∀ u, u < n → M 57 u = zI (dg j u)) : stB n (cpB M (nI (sm j)) n) (some j) := by
  refine ⟨?_, fun u hu => ?_⟩
  · unfold cpB; rw [sr_ne (by decide), s1_eq]
  · have e : cpB M (nI (sm j)) n 58 = (fun u => if u < n then M 57 u else M 58 u) := sr_eq _ _ _
    rw [e]
    show (if u < n then M 57 u else _) = _
    rw [if_pos hu, h u hu]
theorem tells_row {n c q : Nat} {M : MI} (h4 : n ≤ 4) (hr : ∀ u, u < n → M 57 u = zI (dg q u)) : decide (gtF (fun k => !c.testBit k) (fun k => wth (M 57) k n) (-99) (2 ^ n) < lsF c.testBit (fun k => wth (M 57) k n) 99 (2 ^ n)) = tlB n c (dg q) := by
  refine tl_dec (A := 99) rfl rfl (by decide) h4 (fun k => ?_)
  have H := wth_I (w := M 57) (r := dg q) (k := k) h4 (fun v hv => ⟨by rw [hr v hv]; exact zI_dg q v, by have := dg_rng q v; omega, by have := dg_rng q v; omega⟩)
  have h4' : (n : Int) ≤ 4 := by omega
  exact ⟨H.1, by omega, by omega⟩
set_option maxRecDepth 100000 in
set_option maxHeartbeats 4000000 in
theorem c_X10_tries_leaf_none {g : GC} {d : Nat} {M : MI} {L : ML} {n c q : Nat} (hn : M 55 0 = nI n) (h2 : 2 ≤ n) (h4 : n ≤ 4) (hc : c < 2 ^ 31) (hr : ∀ u, u < n → M 57 u = zI (dg (9 ^ (4 - n) * q) u)) (hb : bst (P1 n c) (9 ^ (4 - n) * q) = none) (hB : M 54 5 = -1) : CrV g (d + 2) yX10_tries cX10_tries 5 [rf g 54, .int (nI c), .int (nI n), .int (nI (sv (9 ^ (4 - n) * q) n))] M L (fun M' L' => L' = L ∧ frM M M' ∧ (∀ u, u < n → M' 57 u = M 57 u) ∧ stB n M' (bst (P1 n c) (9 ^ (4 - n) * q + 9 ^ (4 - n)))) := by
  refine crV_of (own := RX10) (l := [some (rf g 54), some (.int (nI c)), some (.int (nI n)), some (.int (nI (sv (9 ^ (4 - n) * q) n))), none]) 1 rfl rfl rfl (Nat.le_of_ble_eq_true rfl) ?_
  refine tm_iload_2 1 rfl dX10_tries_0 ?_
  refine tm_aload_0 2 rfl dX10_tries_1 ?_
  refine tm_getr fl_X10_11 rfl rfl 5 rfl dX10_tries_2 ?_
  refine tm_iconst (0) rfl 6 rfl dX10_tries_5 ?_
  refine tm_ald rfl (ix := 0) ⟨by decide, by decide, by decide⟩ 7 rfl dX10_tries_6 ?_
  refine tm_icmp_ne_f 10 (hn.symm ▸ rfl) rfl rfl dX10_tries_7 ?_
  refine tm_aload_0 11 rfl dX10_tries_10 ?_
  refine tm_geti fl_X10_122 rfl rfl 14 rfl dX10_tries_11 ?_
  refine tm_if_lt_t 25 (by rw [hB]; decide) rfl dX10_tries_14 ?_
  refine tm_aload_0 26 rfl dX10_tries_25 ?_
  refine tm_iload_1 27 rfl dX10_tries_26 ?_
  refine tm_callV_I (ci := 9) (c_X10_tells hn h4 hc) mv_X10_tells ml_X10_126 rfl rfl rfl rfl rfl (Nat.le_of_ble_eq_true rfl) 30 rfl dX10_tries_27 ?_
  rw [tells_row h4 hr]
  refine tm_if_eqB 72 33 rfl rfl dX10_tries_30 (fun h30 => ?_) (fun h30 => ?_)
  · exact tm_vretR (by first | exact ⟨rfl, cpB_fr _ _ _, fun u hu => by rw [cpB_57], by rw [bst_mid h2 h4, hb]; simp only [h30, if_true]; rw [← mid_sm h2 h4]; exact cpB_st (fun u hu => by rw [hr u hu, (mid_dg (q := q) h2 h4).1 u hu])⟩ | exact ⟨rfl, frM.rf, fun u hu => rfl, by rw [bst_mid h2 h4, hb]; simp only [h30]; exact hB⟩) dX10_tries_72
  · refine tm_aload_0 34 rfl dX10_tries_33 ?_
    refine tm_iload_3 35 rfl dX10_tries_34 ?_
    refine tm_puti fl_X10_122 fw_9_5 rfl rfl rfl rfl 38 rfl dX10_tries_35 ?_
    refine tm_iconst (0) rfl 39 rfl dX10_tries_38 ?_
    refine tm_istore_4 (by decide) rfl 41 rfl dX10_tries_39 ?_
    rw [cpB_0]
    refine tm_loop (N := n) (fun k => Tm g (d + 2) RX10 cX10_tries 5 none (QVr g (fun M' L' => L' = L ∧ frM M M' ∧ (∀ u, u < n → M' 57 u = M 57 u) ∧ stB n M' (bst (P1 n c) (9 ^ (4 - n) * q + 9 ^ (4 - n))))) 41 [some (rf g 54), some (.int (nI c)), some (.int (nI n)), some (.int (nI (sv (9 ^ (4 - n) * q) n))), some (.int (nI k))] [] (cpB M (nI (sv (9 ^ (4 - n) * q) n)) k) (L)) (fun k hk ih => ?_) ?_
    · refine tm_iload_4 43 rfl dX10_tries_41 ?_
      refine tm_aload_0 44 rfl dX10_tries_43 ?_
      refine tm_getr fl_X10_11 rfl rfl 47 rfl dX10_tries_44 ?_
      refine tm_iconst (0) rfl 48 rfl dX10_tries_47 ?_
      refine tm_ald rfl (ix := 0) ⟨by decide, by decide, by decide⟩ 49 rfl dX10_tries_48 ?_
      rw [cpB_55, hn]
      refine tm_icmp_ge_f 52 (nI_ge hk (by omega)) rfl rfl dX10_tries_49 ?_
      refine tm_aload_0 53 rfl dX10_tries_52 ?_
      refine tm_getr fl_X10_21 rfl rfl 56 rfl dX10_tries_53 ?_
      refine tm_iload_4 58 rfl dX10_tries_56 ?_
      refine tm_aload_0 59 rfl dX10_tries_58 ?_
      refine tm_getr fl_X10_18 rfl rfl 62 rfl dX10_tries_59 ?_
      refine tm_iload_4 64 rfl dX10_tries_62 ?_
      refine tm_ald rfl (ix := k) (ix_nI (by omega) (by decide)) 65 rfl dX10_tries_64 ?_
      refine tm_ast rfl (ix := k) (ix_nI (by omega) (by decide)) 66 rfl dX10_tries_65 ?_
      refine tm_iinc_4 (nI (k + 1)) (iinc1 k) (by decide) rfl 69 rfl dX10_tries_66 ?_
      refine tm_goto 41 rfl dX10_tries_69 ?_
      rw [cpB_57, cpB_s]
      exact ih
    · refine tm_iload_4 43 rfl dX10_tries_41 ?_
      refine tm_aload_0 44 rfl dX10_tries_43 ?_
      refine tm_getr fl_X10_11 rfl rfl 47 rfl dX10_tries_44 ?_
      refine tm_iconst (0) rfl 48 rfl dX10_tries_47 ?_
      refine tm_ald rfl (ix := 0) ⟨by decide, by decide, by decide⟩ 49 rfl dX10_tries_48 ?_
      rw [cpB_55, hn]
      refine tm_icmp_ge_t 72 (nI_le (Nat.le_refl _) (by omega)) rfl dX10_tries_49 ?_
      exact tm_vretR (by first | exact ⟨rfl, cpB_fr _ _ _, fun u hu => by rw [cpB_57], by rw [bst_mid h2 h4, hb]; simp only [h30, if_true]; rw [← mid_sm h2 h4]; exact cpB_st (fun u hu => by rw [hr u hu, (mid_dg (q := q) h2 h4).1 u hu])⟩ | exact ⟨rfl, frM.rf, fun u hu => rfl, by rw [bst_mid h2 h4, hb]; simp only [h30]; exact hB⟩) dX10_tries_72

set_option maxRecDepth 100000 in
set_option maxHeartbeats 4000000 in
theorem c_X10_tries_leaf_some {g : GC} {d : Nat} {M : MI} {L : ML} {n c q : Nat} (hn : M 55 0 = nI n) (h2 : 2 ≤ n) (h4 : n ≤ 4) (hc : c < 2 ^ 31) (hr : ∀ u, u < n → M 57 u = zI (dg (9 ^ (4 - n) * q) u)) {j : Nat} (hb : bst (P1 n c) (9 ^ (4 - n) * q) = some j) (hB : stB n M (some j)) : CrV g (d + 2) yX10_tries cX10_tries 5 [rf g 54, .int (nI c), .int (nI n), .int (nI (sv (9 ^ (4 - n) * q) n))] M L (fun M' L' => L' = L ∧ frM M M' ∧ (∀ u, u < n → M' 57 u = M 57 u) ∧ stB n M' (bst (P1 n c) (9 ^ (4 - n) * q + 9 ^ (4 - n)))) := by
  refine crV_of (own := RX10) (l := [some (rf g 54), some (.int (nI c)), some (.int (nI n)), some (.int (nI (sv (9 ^ (4 - n) * q) n))), none]) 1 rfl rfl rfl (Nat.le_of_ble_eq_true rfl) ?_
  refine tm_iload_2 1 rfl dX10_tries_0 ?_
  refine tm_aload_0 2 rfl dX10_tries_1 ?_
  refine tm_getr fl_X10_11 rfl rfl 5 rfl dX10_tries_2 ?_
  refine tm_iconst (0) rfl 6 rfl dX10_tries_5 ?_
  refine tm_ald rfl (ix := 0) ⟨by decide, by decide, by decide⟩ 7 rfl dX10_tries_6 ?_
  refine tm_icmp_ne_f 10 (hn.symm ▸ rfl) rfl rfl dX10_tries_7 ?_
  refine tm_aload_0 11 rfl dX10_tries_10 ?_
  refine tm_geti fl_X10_122 rfl rfl 14 rfl dX10_tries_11 ?_
  refine tm_if_lt_f 17 (by rw [hB.1]; exact nI_pos (by have := sm_le j; omega)) rfl rfl dX10_tries_14 ?_
  refine tm_iload_3 18 rfl dX10_tries_17 ?_
  refine tm_aload_0 19 rfl dX10_tries_18 ?_
  refine tm_geti fl_X10_122 rfl rfl 22 rfl dX10_tries_19 ?_
  rw [hB.1]
  refine tm_icmp_ge 72 25 rfl rfl dX10_tries_22 (fun h22 => ?_) (fun h22 => ?_)
  · exact tm_vretR (by first | exact ⟨rfl, cpB_fr _ _ _, fun u hu => by rw [cpB_57], by rw [bst_mid h2 h4, hb]; have hlt : sv (9 ^ (4 - n) * q) n < sm j := (nI_ltI (by have := sv_le (9 ^ (4 - n) * q) n; omega) (by have := sm_le j; omega)).mp (nle_lt h22); simp only [h30, decide_eq_true hlt, Bool.and_self, if_true]; rw [← mid_sm h2 h4]; exact cpB_st (fun u hu => by rw [hr u hu, (mid_dg (q := q) h2 h4).1 u hu])⟩ | exact ⟨rfl, frM.rf, fun u hu => rfl, by rw [bst_mid h2 h4, hb]; simp only [h30, Bool.false_and]; exact hB⟩ | exact ⟨rfl, frM.rf, fun u hu => rfl, by rw [bst_mid h2 h4, hb]; have hge : ¬ sv (9 ^ (4 - n) * q) n < sm j := fun z => (fa_of_lt ((nI_ltI (by have := sv_le (9 ^ (4 - n) * q) n; omega) (by have := sm_le j; omega)).mpr z)).2.1 h22; simp only [decide_eq_false hge, Bool.and_false]; exact hB⟩) dX10_tries_72
  · refine tm_aload_0 26 rfl dX10_tries_25 ?_
    refine tm_iload_1 27 rfl dX10_tries_26 ?_
    refine tm_callV_I (ci := 9) (c_X10_tells hn h4 hc) mv_X10_tells ml_X10_126 rfl rfl rfl rfl rfl (Nat.le_of_ble_eq_true rfl) 30 rfl dX10_tries_27 ?_
    rw [tells_row h4 hr]
    refine tm_if_eqB 72 33 rfl rfl dX10_tries_30 (fun h30 => ?_) (fun h30 => ?_)
    · exact tm_vretR (by first | exact ⟨rfl, cpB_fr _ _ _, fun u hu => by rw [cpB_57], by rw [bst_mid h2 h4, hb]; have hlt : sv (9 ^ (4 - n) * q) n < sm j := (nI_ltI (by have := sv_le (9 ^ (4 - n) * q) n; omega) (by have := sm_le j; omega)).mp (nle_lt h22); simp only [h30, decide_eq_true hlt, Bool.and_self, if_true]; rw [← mid_sm h2 h4]; exact cpB_st (fun u hu => by rw [hr u hu, (mid_dg (q := q) h2 h4).1 u hu])⟩ | exact ⟨rfl, frM.rf, fun u hu => rfl, by rw [bst_mid h2 h4, hb]; simp only [h30, Bool.false_and]; exact hB⟩ | exact ⟨rfl, frM.rf, fun u hu => rfl, by rw [bst_mid h2 h4, hb]; have hge : ¬ sv (9 ^ (4 - n) * q) n < sm j := fun z => (fa_of_lt ((nI_ltI (by have := sv_le (9 ^ (4 - n) * q) n; omega) (by have := sm_le j; omega)).mpr z)).2.1 h22; simp only [decide_eq_false hge, Bool.and_false]; exact hB⟩) dX10_tries_72
    · refine tm_aload_0 34 rfl dX10_tries_33 ?_
      refine tm_iload_3 35 rfl dX10_tries_34 ?_
      refine tm_puti fl_X10_122 fw_9_5 rfl rfl rfl rfl 38 rfl dX10_tries_35 ?_
      refine tm_iconst (0) rfl 39 rfl dX10_tries_38 ?_
      refine tm_istore_4 (by decide) rfl 41 rfl dX10_tries_39 ?_
      rw [cpB_0]
      refine tm_loop (N := n) (fun k => Tm g (d + 2) RX10 cX10_tries 5 none (QVr g (fun M' L' => L' = L ∧ frM M M' ∧ (∀ u, u < n → M' 57 u = M 57 u) ∧ stB n M' (bst (P1 n c) (9 ^ (4 - n) * q + 9 ^ (4 - n))))) 41 [some (rf g 54), some (.int (nI c)), some (.int (nI n)), some (.int (nI (sv (9 ^ (4 - n) * q) n))), some (.int (nI k))] [] (cpB M (nI (sv (9 ^ (4 - n) * q) n)) k) (L)) (fun k hk ih => ?_) ?_
      · refine tm_iload_4 43 rfl dX10_tries_41 ?_
        refine tm_aload_0 44 rfl dX10_tries_43 ?_
        refine tm_getr fl_X10_11 rfl rfl 47 rfl dX10_tries_44 ?_
        refine tm_iconst (0) rfl 48 rfl dX10_tries_47 ?_
        refine tm_ald rfl (ix := 0) ⟨by decide, by decide, by decide⟩ 49 rfl dX10_tries_48 ?_
        rw [cpB_55, hn]
        refine tm_icmp_ge_f 52 (nI_ge hk (by omega)) rfl rfl dX10_tries_49 ?_
        refine tm_aload_0 53 rfl dX10_tries_52 ?_
        refine tm_getr fl_X10_21 rfl rfl 56 rfl dX10_tries_53 ?_
        refine tm_iload_4 58 rfl dX10_tries_56 ?_
        refine tm_aload_0 59 rfl dX10_tries_58 ?_
        refine tm_getr fl_X10_18 rfl rfl 62 rfl dX10_tries_59 ?_
        refine tm_iload_4 64 rfl dX10_tries_62 ?_
        refine tm_ald rfl (ix := k) (ix_nI (by omega) (by decide)) 65 rfl dX10_tries_64 ?_
        refine tm_ast rfl (ix := k) (ix_nI (by omega) (by decide)) 66 rfl dX10_tries_65 ?_
        refine tm_iinc_4 (nI (k + 1)) (iinc1 k) (by decide) rfl 69 rfl dX10_tries_66 ?_
        refine tm_goto 41 rfl dX10_tries_69 ?_
        rw [cpB_57, cpB_s]
        exact ih
      · refine tm_iload_4 43 rfl dX10_tries_41 ?_
        refine tm_aload_0 44 rfl dX10_tries_43 ?_
        refine tm_getr fl_X10_11 rfl rfl 47 rfl dX10_tries_44 ?_
        refine tm_iconst (0) rfl 48 rfl dX10_tries_47 ?_
        refine tm_ald rfl (ix := 0) ⟨by decide, by decide, by decide⟩ 49 rfl dX10_tries_48 ?_
        rw [cpB_55, hn]
        refine tm_icmp_ge_t 72 (nI_le (Nat.le_refl _) (by omega)) rfl dX10_tries_49 ?_
        exact tm_vretR (by first | exact ⟨rfl, cpB_fr _ _ _, fun u hu => by rw [cpB_57], by rw [bst_mid h2 h4, hb]; have hlt : sv (9 ^ (4 - n) * q) n < sm j := (nI_ltI (by have := sv_le (9 ^ (4 - n) * q) n; omega) (by have := sm_le j; omega)).mp (nle_lt h22); simp only [h30, decide_eq_true hlt, Bool.and_self, if_true]; rw [← mid_sm h2 h4]; exact cpB_st (fun u hu => by rw [hr u hu, (mid_dg (q := q) h2 h4).1 u hu])⟩ | exact ⟨rfl, frM.rf, fun u hu => rfl, by rw [bst_mid h2 h4, hb]; simp only [h30, Bool.false_and]; exact hB⟩ | exact ⟨rfl, frM.rf, fun u hu => rfl, by rw [bst_mid h2 h4, hb]; have hge : ¬ sv (9 ^ (4 - n) * q) n < sm j := fun z => (fa_of_lt ((nI_ltI (by have := sv_le (9 ^ (4 - n) * q) n; omega) (by have := sm_le j; omega)).mpr z)).2.1 h22; simp only [decide_eq_false hge, Bool.and_false]; exact hB⟩) dX10_tries_72

theorem c_X10_tries_leaf {g : GC} {d : Nat} {M : MI} {L : ML} {n c q : Nat} (hn : M 55 0 = nI n) (h2 : 2 ≤ n) (h4 : n ≤ 4) (hc : c < 2 ^ 31) (hr : ∀ u, u < n → M 57 u = zI (dg (9 ^ (4 - n) * q) u)) (hB : stB n M (bst (P1 n c) (9 ^ (4 - n) * q))) : CrV g (d + 2) yX10_tries cX10_tries 5 [rf g 54, .int (nI c), .int (nI n), .int (nI (sv (9 ^ (4 - n) * q) n))] M L (fun M' L' => L' = L ∧ frM M M' ∧ (∀ u, u < n → M' 57 u = M 57 u) ∧ stB n M' (bst (P1 n c) (9 ^ (4 - n) * q + 9 ^ (4 - n)))) := by
  cases hb : bst (P1 n c) (9 ^ (4 - n) * q) with
  | none => rw [hb] at hB; exact c_X10_tries_leaf_none hn h2 h4 hc hr hb hB
  | some j => rw [hb] at hB; exact c_X10_tries_leaf_some hn h2 h4 hc hr hb hB

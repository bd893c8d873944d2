theorem p9 {v : Nat} (hv : v < 4) : 9 ^ (4 - v) = 9 * 9 ^ (3 - v) := by
  rcases (show v = 0 ∨ v = 1 ∨ v = 2 ∨ v = 3 by omega) with rfl | rfl | rfl | rfl <;> rfl
theorem idx_eq {v q k : Nat} (hv : v < 4) : 9 ^ (4 - (v + 1)) * (9 * q + k) = 9 ^ (4 - v) * q + k * 9 ^ (3 - v) := by
  rw [p9 hv, show 4 - (v + 1) = 3 - v by omega, Nat.mul_add, Nat.mul_comm _ k, Nat.mul_assoc, Nat.mul_left_comm]
theorem dig_nx {v k q u : Nat} (hv : v < 4) (hk : k < 9) (hu : u < v) : dg (9 ^ (4 - (v + 1)) * (9 * q + k)) u = dg (9 ^ (4 - v) * q) u := by rw [idx_eq hv]; exact (dig_step hv hk).1 u hu
theorem dig_nv {v k q : Nat} (hv : v < 4) (hk : k < 9) : dg (9 ^ (4 - (v + 1)) * (9 * q + k)) v = (k : Int) - 4 := by rw [idx_eq hv]; exact (dig_step hv hk).2
theorem sv_nx {v k q : Nat} (hv : v < 4) (hk : k < 9) : sv (9 ^ (4 - v) * q) v + ((k : Int) - 4).natAbs = sv (9 ^ (4 - (v + 1)) * (9 * q + k)) (v + 1) := by
  show _ = sv (9 ^ (4 - (v + 1)) * (9 * q + k)) v + (dg (9 ^ (4 - (v + 1)) * (9 * q + k)) v).natAbs
  rw [dig_nv hv hk, sv_congr (i := 9 ^ (4 - (v + 1)) * (9 * q + k)) (j := 9 ^ (4 - v) * q) (fun u hu => dig_nx hv hk hu)]
theorem idx_s {v q k : Nat} (hv : v < 4) : 9 ^ (4 - (v + 1)) * (9 * q + k) + 9 ^ (4 - (v + 1)) = 9 ^ (4 - v) * q + (k + 1) * 9 ^ (3 - v) := by
  rw [idx_eq hv, show 4 - (v + 1) = 3 - v by omega, Nat.add_mul, Nat.one_mul, Nat.add_assoc]
theorem zinc (z : Int) : zI z + Int32.ofInt 1 = zI (z + 1) := by
  show Int32.ofInt z + Int32.ofInt 1 = Int32.ofInt (z + 1)
  rw [Int32.ofInt_add]
theorem zinck (k : Nat) : zI ((k : Int) - 4) + Int32.ofInt 1 = zI (((k + 1 : Nat) : Int) - 4) := by
  rw [zinc]
  congr 1
  omega
theorem zgt {k : Nat} (hk : k < 9) : ¬ (4 : Int32) < zI ((k : Int) - 4) := by
  rw [fa_lt, zI_t (by omega) (by omega)]
  have : (4 : Int32).toInt = 4 := rfl
  omega
theorem zabs {z : Int} (h : -4 ≤ z) (h2 : z ≤ 4) (q : 0 ≤ zI z) : nI z.natAbs = zI z := by
  rw [fa_le, zI_t (by omega) (by omega)] at q
  have e : (0 : Int32).toInt = 0 := rfl
  rw [← zI_nI]
  congr 1
  omega
theorem zneg (z : Int) : -zI z = zI (-z) := by
  show -Int32.ofInt z = Int32.ofInt (-z)
  rw [Int32.ofInt_neg]
theorem zabs2 {z : Int} (h : -4 ≤ z) (h2 : z ≤ 4) (q : ¬ 0 ≤ zI z) : nI z.natAbs = -zI z := by
  rw [fa_le, zI_t (by omega) (by omega)] at q
  have e : (0 : Int32).toInt = 0 := rfl
  rw [← zI_nI, zneg]
  congr 1
  omega
theorem stB_s1 {n : Nat} {M : MI} {b : Option Nat} {k : Nat} {x : Int32} (h : stB n M b) : stB n (s1 M 57 k x) b := by
  cases b with
  | none => show s1 M 57 k x 54 5 = _; rw [s1_ne (by decide)]; exact h
  | some j => exact ⟨by rw [s1_ne (by decide)]; exact h.1, fun u hu => by rw [s1_ne (by decide)]; exact h.2 u hu⟩
set_option maxRecDepth 100000 in
set_option maxHeartbeats 4000000 in
theorem c_X10_tries_step {g : GC} {d : Nat} {M : MI} {L : ML} {n c q v : Nat} (hn : M 55 0 = nI n) (h4 : n ≤ 4) (hv : v < n) (hr : ∀ u, u < v → M 57 u = zI (dg (9 ^ (4 - v) * q) u)) (hB : stB n M (bst (P1 n c) (9 ^ (4 - v) * q))) (IH : ∀ {M : MI} {q : Nat}, M 55 0 = nI n → (∀ u, u < v + 1 → M 57 u = zI (dg (9 ^ (4 - (v + 1)) * q) u)) → stB n M (bst (P1 n c) (9 ^ (4 - (v + 1)) * q)) → CrV g d yX10_tries cX10_tries 5 [rf g 54, .int (nI c), .int (nI (v + 1)), .int (nI (sv (9 ^ (4 - (v + 1)) * q) (v + 1)))] M L (fun M' L' => L' = L ∧ frM M M' ∧ (∀ u, u < v + 1 → M' 57 u = M 57 u) ∧ stB n M' (bst (P1 n c) (9 ^ (4 - (v + 1)) * q + 9 ^ (4 - (v + 1)))))) : CrV g (d + 1) yX10_tries cX10_tries 5 [rf g 54, .int (nI c), .int (nI v), .int (nI (sv (9 ^ (4 - v) * q) v))] M L (fun M' L' => L' = L ∧ frM M M' ∧ (∀ u, u < v → M' 57 u = M 57 u) ∧ stB n M' (bst (P1 n c) (9 ^ (4 - v) * q + 9 ^ (4 - v)))) := by
  have hv4 : v < 4 := by omega
  refine crV_of (own := RX10) (l := [some (rf g 54), some (.int (nI c)), some (.int (nI v)), some (.int (nI (sv (9 ^ (4 - v) * q) v))), none]) 1 rfl rfl rfl (Nat.le_of_ble_eq_true rfl) ?_
  refine tm_iload_2 1 rfl dX10_tries_0 ?_
  refine tm_aload_0 2 rfl dX10_tries_1 ?_
  refine tm_getr fl_X10_11 rfl rfl 5 rfl dX10_tries_2 ?_
  refine tm_iconst (0) rfl 6 rfl dX10_tries_5 ?_
  refine tm_ald rfl (ix := 0) ⟨by decide, by decide, by decide⟩ 7 rfl dX10_tries_6 ?_
  refine tm_icmp_ne_t 73 (by rw [hn]; exact fun z => by have := (nI_eq (by omega) (by omega)).mp z; omega) rfl dX10_tries_7 ?_
  refine tm_bipush (-4) (by decide) 75 rfl dX10_tries_73 ?_
  rw [show (-4 : Int32) = zI (((0 : Nat) : Int) - 4) by decide]
  refine tm_istore_4 (by decide) rfl 77 rfl dX10_tries_75 ?_
  refine (tm_loop (N := 9) (fun k => ∀ (Mx : MI), (frM M Mx ∧ (∀ u, u < v → Mx 57 u = M 57 u) ∧ stB n Mx (bst (P1 n c) (9 ^ (4 - v) * q + k * 9 ^ (3 - v)))) → Tm g (d + 1) RX10 cX10_tries 5 none (QVr g (fun M' L' => L' = L ∧ frM M M' ∧ (∀ u, u < v → M' 57 u = M 57 u) ∧ stB n M' (bst (P1 n c) (9 ^ (4 - v) * q + 9 ^ (4 - v))))) 77 [some (rf g 54), some (.int (nI c)), some (.int (nI v)), some (.int (nI (sv (9 ^ (4 - v) * q) v))), some (.int (zI ((k : Int) - 4)))] [] Mx (L)) (fun k hk ih Mx hI => ?_) (fun Mx hI => ?_)) M ?_
  · refine tm_iload_4 79 rfl dX10_tries_77 ?_
    refine tm_iconst (4) rfl 80 rfl dX10_tries_79 ?_
    refine tm_icmp_gt_f 83 (zgt hk) rfl rfl dX10_tries_80 ?_
    refine tm_aload_0 84 rfl dX10_tries_83 ?_
    refine tm_getr fl_X10_18 rfl rfl 87 rfl dX10_tries_84 ?_
    refine tm_iload_2 88 rfl dX10_tries_87 ?_
    refine tm_iload_4 90 rfl dX10_tries_88 ?_
    refine tm_ast rfl (ix := v) (ix_nI (by omega) (by decide)) 91 rfl dX10_tries_90 ?_
    refine tm_aload_0 92 rfl dX10_tries_91 ?_
    refine tm_iload_1 93 rfl dX10_tries_92 ?_
    refine tm_iload_2 94 rfl dX10_tries_93 ?_
    refine tm_iconst (1) rfl 95 rfl dX10_tries_94 ?_
    refine tm_iadd 96 rfl dX10_tries_95 ?_
    rw [nI_1]
    refine tm_iload_3 97 rfl dX10_tries_96 ?_
    refine tm_iload_4 99 rfl dX10_tries_97 ?_
    refine tm_join1 110 (nI ((k : Int) - 4).natAbs) ?_ (fun hJ110 => ?_)
    · refine tm_iadd 111 rfl dX10_tries_110 ?_
      rw [nI_add, sv_nx hv4 hk]
      refine tm_callVr_V (ci := 9) (IH (M := s1 Mx 57 v (zI ((k : Int) - 4))) (q := 9 * q + k) (by rw [s1_ne (by decide), hI.1.row (by decide) (by decide) (by decide)]; exact hn) (fun u hu => by
          by_cases e : u = v
          · subst e; rw [s1_eq, dig_nv hv4 hk]
          · rw [s1_nk e, hI.2.1 u (by omega), hr u (by omega), dig_nx hv4 hk (by omega)]) (stB_s1 (by rw [idx_eq hv4]; exact hI.2.2))) mv_X10_tries ml_X10_129 rfl rfl rfl rfl rfl (Nat.le_of_ble_eq_true rfl) 114 rfl dX10_tries_111 (fun M1 L1 hq => ?_)
      obtain ⟨rfl, f1, r1, b1⟩ := hq
      refine tm_iinc_4 (zI (((k + 1 : Nat) : Int) - 4)) (zinck k) (by decide) rfl 117 rfl dX10_tries_114 ?_
      refine tm_goto 77 rfl dX10_tries_117 ?_
      exact ih M1 ⟨(hI.1.s1a v _).tr f1, fun u hu => by rw [r1 u (by omega), s1_nk (by omega)]; exact hI.2.1 u hu, by rw [← idx_s hv4]; exact b1⟩
    · refine tm_if_ge 108 102 rfl rfl dX10_tries_99 (fun h99 => ?_) (fun h99 => ?_)
      · refine tm_iload_4 110 rfl dX10_tries_108 ?_
        exact tm_top (by first | exact zabs (by omega) (by omega) h99 | exact zabs2 (by omega) (by omega) h99) hJ110
      · refine tm_iload_4 104 rfl dX10_tries_102 ?_
        refine tm_ineg 105 rfl dX10_tries_104 ?_
        refine tm_goto 110 rfl dX10_tries_105 ?_
        exact tm_top (by first | exact zabs (by omega) (by omega) h99 | exact zabs2 (by omega) (by omega) h99) hJ110
  · refine tm_iload_4 79 rfl dX10_tries_77 ?_
    refine tm_iconst (4) rfl 80 rfl dX10_tries_79 ?_
    refine tm_icmp_gt_t 120 (by decide) rfl dX10_tries_80 ?_
    exact tm_vretR ⟨rfl, hI.1, hI.2.1, by have := hI.2.2; rwa [← p9 hv4] at this⟩ dX10_tries_120
  · exact ⟨frM.rf, fun _ _ => rfl, by rw [Nat.zero_mul, Nat.add_zero]; exact hB⟩

theorem c_X10_tries {g : GC} {n c : Nat} {L : ML} (h2 : 2 ≤ n) (h4 : n ≤ 4) (hc : c < 2 ^ 31) : ∀ (m : Nat) {d : Nat} {M : MI} {q v : Nat}, v + m = n → M 55 0 = nI n → (∀ u, u < v → M 57 u = zI (dg (9 ^ (4 - v) * q) u)) → stB n M (bst (P1 n c) (9 ^ (4 - v) * q)) → CrV g (d + 2 + m) yX10_tries cX10_tries 5 [rf g 54, .int (nI c), .int (nI v), .int (nI (sv (9 ^ (4 - v) * q) v))] M L (fun M' L' => L' = L ∧ frM M M' ∧ (∀ u, u < v → M' 57 u = M 57 u) ∧ stB n M' (bst (P1 n c) (9 ^ (4 - v) * q + 9 ^ (4 - v))))
  | 0, d, M, q, v, e, hn, hr, hB => by
    have : v = n := by omega
    subst this
    exact c_X10_tries_leaf hn h2 h4 hc hr hB
  | m + 1, d, M, q, v, e, hn, hr, hB => c_X10_tries_step (d := d + 2 + m) hn h4 (by omega) hr hB (fun h1 h2' h3 => c_X10_tries h2 h4 hc m (by omega) h1 h2' h3)
/-- the number of the least row, if there is one -/
def LR (n c : Nat) : Option Nat := bst (P1 n c) 6561
theorem stB_lin {n : Nat} {M : MI} {b : Option Nat} (h : stB n M b) : (M 54 5 < 0 → b.isSome = false) ∧ (¬ M 54 5 < 0 → b.isSome = true) := by
  cases b with
  | none => exact ⟨fun _ => rfl, fun q => absurd (by rw [show M 54 5 = -1 from h]; decide) q⟩
  | some j => exact ⟨fun q => absurd q (by rw [h.1]; exact nI_pos (by have := sm_le j; omega)), fun _ => rfl⟩
set_option maxRecDepth 100000 in
set_option maxHeartbeats 4000000 in
theorem c_X10_isLinear {g : GC} {d : Nat} {M : MI} {L : ML} {n c : Nat} (hn : M 55 0 = nI n) (h2 : 2 ≤ n) (h4 : n ≤ 4) (hc : c < 2 ^ 31) : CrI g (d + 7) yX10_isLinear cX10_isLinear 2 .boolean [rf g 54, .int (nI c)] M L (fun r M' L' => L' = L ∧ frM M M' ∧ r = bI (LR n c).isSome ∧ ∀ j, LR n c = some j → ∀ u, u < n → M' 58 u = zI (dg j u)) := by
  refine crI_of (own := RX10) (l := [some (rf g 54), some (.int (nI c))]) 0 rfl rfl rfl (Nat.le_of_ble_eq_true rfl) ?_
  refine tm_aload_0 1 rfl dX10_isLinear_0 ?_
  refine tm_iconst (-1) rfl 2 rfl dX10_isLinear_1 ?_
  refine tm_puti fl_X10_122 fw_9_5 rfl rfl rfl rfl 5 rfl dX10_isLinear_2 ?_
  refine tm_aload_0 6 rfl dX10_isLinear_5 ?_
  refine tm_iload_1 7 rfl dX10_isLinear_6 ?_
  refine tm_iconst (0) rfl 8 rfl dX10_isLinear_7 ?_
  refine tm_iconst (0) rfl 9 rfl dX10_isLinear_8 ?_
  refine tm_callVr_V (ci := 9) (by
      have hT := c_X10_tries (g := g) (L := L) h2 h4 hc n (d := d + 4 - n) (M := s1 M 54 5 (-1)) (q := 0) (v := 0) (by omega) (by rw [s1_ne (by decide)]; exact hn) (fun u hu => absurd hu (by omega)) (s1_eq _ _ _ _)
      rw [show d + 4 - n + 2 + n = d + 6 by omega] at hT
      exact hT) mv_X10_tries ml_X10_129 rfl rfl rfl rfl rfl (Nat.le_of_ble_eq_true rfl) 12 rfl dX10_isLinear_9 (fun M1 L1 hq => ?_)
  obtain ⟨rfl, f1, r1, b1⟩ := hq
  have b1 : stB n M1 (LR n c) := b1
  have ff : frM M M1 := fun i k q => (f1 i k q).trans (by by_cases e : i = 54
                                                          · subst e; rw [s1_nk (by omega)]
                                                          · rw [s1_ne e])
  have hbest : ∀ j, LR n c = some j → ∀ u, u < n → M1 58 u = zI (dg j u) := fun j hj u hu => by rw [hj] at b1; exact b1.2 u hu
  refine tm_aload_0 13 rfl dX10_isLinear_12 ?_
  refine tm_geti fl_X10_122 rfl rfl 16 rfl dX10_isLinear_13 ?_
  refine tm_if_lt 23 19 rfl rfl dX10_isLinear_16 (fun h16 => ?_) (fun h16 => ?_)
  · refine tm_iconst (0) rfl 24 rfl dX10_isLinear_23 ?_
    exact tm_zretR (by decide) (by first | exact ⟨rfl, ff, by rw [(stB_lin b1).1 h16]; rfl, hbest⟩ | exact ⟨rfl, ff, by rw [(stB_lin b1).2 h16]; rfl, hbest⟩) dX10_isLinear_24
  · refine tm_iconst (1) rfl 20 rfl dX10_isLinear_19 ?_
    refine tm_goto 24 rfl dX10_isLinear_20 ?_
    exact tm_zretR (by decide) (by first | exact ⟨rfl, ff, by rw [(stB_lin b1).1 h16]; rfl, hbest⟩ | exact ⟨rfl, ff, by rw [(stB_lin b1).2 h16]; rfl, hbest⟩) dX10_isLinear_24

/-- the least quota by row j -/
def lqN (n c j : Nat) : Int32 := if c = 0 then gtF (fun _ => true) (fun k => wth (fun u => zI (dg j u)) k n) (-99) (2 ^ n) + 1 else lsF c.testBit (fun k => wth (fun u => zI (dg j u)) k n) 99 (2 ^ n)
theorem lsF_congr {p : Nat → Bool} {wt wt2 : Nat → Int32} {a : Int32} : ∀ {N : Nat}, (∀ k, k < N → wt k = wt2 k) → lsF p wt a N = lsF p wt2 a N
  | 0, _ => rfl
  | N + 1, h => by
    unfold lsF
    rw [lsF_congr (fun k hk => h k (by omega)), h N (by omega)]
theorem gtF_congr {p : Nat → Bool} {wt wt2 : Nat → Int32} {a : Int32} : ∀ {N : Nat}, (∀ k, k < N → wt k = wt2 k) → gtF p wt a N = gtF p wt2 a N
  | 0, _ => rfl
  | N + 1, h => by
    unfold gtF
    rw [gtF_congr (fun k hk => h k (by omega)), h N (by omega)]
theorem lq_m {n c j : Nat} {M : MI} (h : ∀ u, u < n → M 58 u = zI (dg j u)) : (if c = 0 then gtF (fun _ => true) (fun k => wth (M 58) k n) (-99) (2 ^ n) + 1 else lsF c.testBit (fun k => wth (M 58) k n) 99 (2 ^ n)) = lqN n c j := by
  unfold lqN
  rw [gtF_congr (wt2 := fun k => wth (fun u => zI (dg j u)) k n) (fun k _ => wth_congr h), lsF_congr (wt2 := fun k => wth (fun u => zI (dg j u)) k n) (fun k _ => wth_congr h)]

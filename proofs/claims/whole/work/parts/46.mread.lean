/-! the model reads a text -/
theorem sg_in {t : Nat → Int32} {s p : Nat} (hp : ∀ i, i < s → ¬ t i = -1) (h : p < s) : ¬ sg t s p = -1 := by unfold sg; rw [if_pos h]; exact hp p h
theorem sg_out {t : Nat → Int32} {s p : Nat} (h : s ≤ p) : sg t s p = -1 := if_neg (by omega)
theorem hasM.D {M M1 : MI} {σ : AS} (h : hasM M σ) (f : frD M M1) : hasM M1 σ := ⟨by rw [f 55 0 (by omega)]; exact h.1, by rw [f 55 1 (by omega)]; exact h.2.1, by rw [f 55 2 (by omega)]; exact h.2.2.1, by rw [f 55 3 (by omega)]; exact h.2.2.2.1, fun v hv => by rw [f 55 (4 + v) (by omega)]; exact h.2.2.2.2 v hv⟩
theorem hasM.s4 {M : MI} {σ : AS} (h : hasM M σ) {k : Nat} (x : Int32) : hasM (s1 M 54 k x) σ := by unfold hasM at *; rw [s1_ne (by decide)]; exact h
theorem txM.pu {M : MI} {s p : Nat} {t : Nat → Int32} (h : txM M s t p) (τ : AS) : txM (putM M τ) s t p := by unfold txM at *; rw [putM_ne (by decide), putM_ne (by decide)]; exact h
theorem dgQ.pl {K : Nat} {t : Nat → Int32} {s p : Nat} {M : MI} (h : dgQ K t s p M) (x : Int32) : dgQ K t s p (s1 M 54 10 x) := by
  unfold dgQ at *
  rw [s1_ne (by decide), s1_nk (by decide), s1_nk (by decide)]
  exact h
def frQ (M M' : MI) : Prop := ∀ i k, ¬ ((i = 54 ∧ (k = 9 ∨ k = 10 ∨ k = 12 ∨ k = 13)) ∨ i = 62 ∨ (i = 55 ∧ k < 8)) → M' i k = M i k
theorem frQ.D {M M1 : MI} (h : frD M M1) : frQ M M1 := fun i k q => h i k (fun z => q (by omega))
theorem frQ.tr {M M1 M2 : MI} (h : frQ M M1) (h2 : frQ M1 M2) : frQ M M2 := fun i k q => (h2 i k q).trans (h i k q)
theorem frQ.s1 {M M' : MI} (h : frQ M M') {k : Nat} (hi : k = 9 ∨ k = 10 ∨ k = 12 ∨ k = 13) (x : Int32) : frQ M (s1 M' 54 k x) := fun j u q => by
  rw [s1_at, if_neg (fun z => q (Or.inl ⟨z.1, by rw [z.2]; exact hi⟩))]
  exact h j u q
theorem frQ.pu {M M' : MI} (h : frQ M M') (τ : AS) : frQ M (putM M' τ) := fun i k q => by
  by_cases c : i = 55
  · subst c
    rw [putM_55]
    unfold gRow
    rw [if_neg (by omega), if_neg (by omega), if_neg (by omega), if_neg (by omega), if_neg (by omega)]
    exact h 55 k q
  · rw [putM_ne c]; exact h i k q
def mdI (t : Nat → Int32) (s : Nat) (M Mx : MI) (k : Nat) : Prop := txM Mx s t (clE t s (pP t s k)) ∧ clO t s (pP t s k) = true ∧ (∀ j, j < k → stp t s j = false) ∧ k < 12 ∧ frD M Mx
def rmQ (t : Nat → Int32) (s : Nat) (σ : AS) (M : MI) (r : Int32) (M' : MI) : Prop := r = (ansRd t s σ).1 ∧ hasM M' (ansRd t s σ).2 ∧ M' 54 9 = 0 ∧ frQ M M'
theorem rm_f {t : Nat → Int32} {s k : Nat} {σ : AS} {M M1 : MI} (hM : hasM M σ) (hf : frD M M1) (e : fj t s = k) (hb : bdR t s = true) (h : M1 54 10 = nI (clE t s (pP t s k))) : rmQ t s σ M (-10 - s1 M1 54 9 0 54 10) (s1 M1 54 9 0) := by
  refine ⟨?_, ?_, s1_eq _ _ _ _, (frQ.D hf).s1 (by decide) _⟩
  · rw [rd_y hb, s1_nk (by decide), h, e]
  · rw [rd_y hb]; exact (hM.D hf).s4 0
def aP (t : Nat → Int32) (s j : Nat) : Nat := if j ≤ fj t s then pP t s j else clE t s (pP t s (fj t s))
theorem bd_e {t : Nat → Int32} {s : Nat} (h : bdR t s = false) : sg t s (clE t s (pP t s (fj t s))) = -1 := by
  unfold bdR at h
  by_cases q : sg t s (clE t s (pP t s (fj t s))) = -1
  · exact q
  · rw [decide_eq_false q] at h; simp at h
theorem ap_y {t : Nat → Int32} {s j : Nat} (hb : bdR t s = false) (hj : j < fj t s + 1) (h : sg t s (clE t s (pP t s j)) = 59) : aP t s (j + 1) = clE t s (pP t s j) + 1 := by
  rcases Nat.lt_succ_iff_lt_or_eq.mp hj with z | z
  · exact if_pos z
  · have := bd_e hb
    rw [← z, h] at this
    exact absurd this (by decide)
theorem ap_n {t : Nat → Int32} {s j : Nat} (hj : j < fj t s + 1) (h : ¬ sg t s (clE t s (pP t s j)) = 59) : aP t s (j + 1) = clE t s (pP t s j) := by
  rcases Nat.lt_succ_iff_lt_or_eq.mp hj with z | z
  · have := fa_first_no (stp t s) 12 j z
    rw [st_n59 h] at this
    cases this
  · unfold aP
    rw [if_neg (by omega), ← z]
theorem ap_j {t : Nat → Int32} {s j : Nat} (hj : j < fj t s + 1) : aP t s j = pP t s j := if_pos (by omega)
theorem ap_lt {t : Nat → Int32} {s j : Nat} (hb : bdR t s = false) (hj : j < fj t s + 1) : aP t s j < s := by
  rw [ap_j hj]
  have h := cl_kd (cl_ok hb hj)
  by_cases q : pP t s j < s
  · exact q
  · rw [sg_out (by omega)] at h
    exact absurd (by decide) h
theorem ap_e {t : Nat → Int32} {s : Nat} (hp : ∀ i, i < s → ¬ t i = -1) (hb : bdR t s = false) : s ≤ aP t s (fj t s + 1) := by
  unfold aP
  rw [if_neg (by omega)]
  by_cases q : clE t s (pP t s (fj t s)) < s
  · exact absurd (bd_e hb) (sg_in hp q)
  · omega
theorem ap_b (t : Nat → Int32) (s j : Nat) : aP t s j ≤ 100 := by
  have h := fj_lt t s
  unfold aP
  split
  · have := pP_b t s j; omega
  · have := clE_b t s (fj t s); omega
def m2I (t : Nat → Int32) (s : Nat) (σ : AS) (M My : MI) (j : Nat) : Prop := txM My s t (aP t s j) ∧ hasM My (rnS t s σ j).2 ∧ frQ M My
theorem rn_t {t : Nat → Int32} {s k : Nat} {σ : AS} (h : decide (0 ≤ (opCl (rnS t s σ k).2 (sg t s (pP t s k)) (fsP t s k) (scP t s k)).1) = true) : nI (rnS t s σ k).1 + 1 = nI (rnS t s σ (k + 1)).1 := by
  rw [nI_1]
  show _ = nI (_ + (if _ then 1 else 0))
  rw [if_pos (of_decide_eq_true h)]
theorem rn_f {t : Nat → Int32} {s k : Nat} {σ : AS} (h : decide (0 ≤ (opCl (rnS t s σ k).2 (sg t s (pP t s k)) (fsP t s k) (scP t s k)).1) = false) : nI (rnS t s σ k).1 + 0 = nI (rnS t s σ (k + 1)).1 := by
  rw [Int32.add_zero]
  show _ = nI (_ + (if _ then 1 else 0))
  rw [if_neg (of_decide_eq_false h)]
  rfl
theorem m2_s {t : Nat → Int32} {s j : Nat} {σ : AS} {M M6 : MI} (hT : txM M6 s t (aP t s (j + 1))) (hf : frQ M M6) : m2I t s σ M (putM M6 (opCl (rnS t s σ j).2 (sg t s (pP t s j)) (fsP t s j) (scP t s j)).2) (j + 1) := ⟨hT.pu _, hasM_put _ _, hf.pu _⟩
theorem m2_e {t : Nat → Int32} {s : Nat} {σ : AS} {M My : MI} (h : m2I t s σ M My (fj t s + 1)) (hb : bdR t s = false) : rmQ t s σ M (nI (rnS t s σ (fj t s + 1)).1) (s1 My 54 9 0) := by
  refine ⟨by rw [rd_n hb], ?_, s1_eq _ _ _ _, h.2.2.s1 (by decide) _⟩
  rw [rd_n hb]; exact h.2.1.s4 0
set_option maxRecDepth 100000 in
set_option maxHeartbeats 4000000 in
theorem c_X10_read {g : GC} {d : Nat} {M : MI} {L : ML} {σ : AS} (hM : hasM M σ) (hσ : okS σ) {s : Nat} {t : Nat → Int32} (hs : M 54 9 = nI s) (h1 : s ≤ 100) (ht : ∀ i, i < s → M 61 i = t i) (hp : ∀ i, i < s → ¬ t i = -1) : CrI g (d + 4) yX10_read cX10_read 6 .int [rf g 54] M L (fun r M' L' => L' = L ∧ rmQ t s σ M r M') := by
  have hT0 : txM (s1 M 54 10 0) s t (pP t s 0) := ⟨by rw [s1_nk (by decide)]; exact hs, h1, fun i hi => by rw [s1_ne (by decide)]; exact ht i hi, s1_eq _ _ _ _, Nat.zero_le _⟩
  refine crI_of (own := RX10) (l := [some (rf g 54), none, none, none, none, none]) 5 rfl rfl rfl (Nat.le_of_ble_eq_true rfl) ?_
  refine tm_aload_0 1 rfl dX10_read_0 ?_
  refine tm_iconst (0) rfl 2 rfl dX10_read_1 ?_
  refine tm_puti fl_X10_184 fw_9_10 rfl rfl rfl rfl 5 rfl dX10_read_2 ?_
  refine tm_iconst (0) rfl 6 rfl dX10_read_5 ?_
  refine tm_istore_1 (by decide) rfl 7 rfl dX10_read_6 ?_
  refine tm_iconst (1) rfl 8 rfl dX10_read_7 ?_
  refine tm_istore_2 (by decide) rfl 9 rfl dX10_read_8 ?_
  refine tm_iload_2 10 rfl dX10_read_9 ?_
  refine tm_if_eq_f 13 (by decide) rfl rfl dX10_read_10 ?_
  refine tm_iload_1 14 rfl dX10_read_13 ?_
  refine tm_if_eq_t 28 (by decide) rfl dX10_read_14 ?_
  refine tm_iload_1 29 rfl dX10_read_28 ?_
  refine tm_if_le_t 71 (by decide) rfl dX10_read_29 ?_
  refine tm_iload_2 72 rfl dX10_read_71 ?_
  refine tm_if_eq_f 75 (by decide) rfl rfl dX10_read_72 ?_
  refine tm_aload_0 76 rfl dX10_read_75 ?_
  refine tm_callVr_I (ci := 9) (c_X10_hasClause (p := pP t s 0) hT0 (by show 0 < 800; decide)) mv_X10_hasClause ml_X10_236 rfl rfl rfl rfl rfl (Nat.le_of_ble_eq_true rfl) 79 rfl dX10_read_76 (fun r1 M1 L1 hQ => ?_)
  obtain ⟨hL1, hq0⟩ := hQ
  have hL1 := hL1.symm
  subst hL1
  have hr1 : r1 = bI (clO t s (pP t s 0)) := hq0.1
  subst hr1
  refine tm_if_eqB 86 82 rfl rfl dX10_read_79 (fun h79 => ?_) (fun h79 => ?_)
  · refine tm_iconst (0) rfl 87 rfl dX10_read_86 ?_
    refine tm_istore_2 (by decide) rfl 88 rfl dX10_read_87 ?_
    refine tm_iinc_1 (nI (0 + 1)) (rfl) (by decide) rfl 91 rfl dX10_read_88 ?_
    refine tm_goto 9 rfl dX10_read_91 ?_
    refine tm_iload_2 10 rfl dX10_read_9 ?_
    refine tm_if_eq_t 94 (by decide) rfl dX10_read_10 ?_
    refine tm_iload_2 95 rfl dX10_read_94 ?_
    refine tm_if_ne_f 98 (by decide) rfl rfl dX10_read_95 ?_
    refine tm_aload_0 99 rfl dX10_read_98 ?_
    refine tm_iconst (0) rfl 100 rfl dX10_read_99 ?_
    refine tm_puti fl_X10_181 fw_9_9 rfl rfl rfl rfl 103 rfl dX10_read_100 ?_
    refine tm_bipush (-10) (by decide) 105 rfl dX10_read_103 ?_
    refine tm_aload_0 106 rfl dX10_read_105 ?_
    refine tm_geti fl_X10_184 rfl rfl 109 rfl dX10_read_106 ?_
    refine tm_isub 110 rfl dX10_read_109 ?_
    exact tm_iretR (by first | (have hno : clO t s (pP t s (k + 1)) = false := h79; have hfj := fj_eq (k := k + 1) (by omega) (sp_no hno) hst; exact ⟨rfl, rm_f hM ((hI.2.2.2.2.s1 (by decide) _).tr hq1.2.2.2) hfj (bd_no hfj hno) hq1.2.1⟩) | (have hlt := nI_nle_lt h25 (by omega) (by omega); have hfj : fj t s = k := fj_eq hI.2.2.2.1 (by first | exact st_n59 h44 | exact st_11 (by have := nI_le_le (b := 12) h35 (by omega) (by decide); omega)) hI.2.2.1; exact ⟨rfl, rm_f hM (hI.2.2.2.2.s1 (by decide) _) hfj (bd_n hfj (sg_in hp hlt)) (s1_eq _ _ _ _)⟩) | (have hno : clO t s (pP t s 0) = false := h79; have hfj := fj_eq (k := 0) (by decide) (sp_no hno) (fun j hj => absurd hj (Nat.not_lt_zero j)); exact ⟨rfl, rm_f hM ((frD.rf.s1 (by decide) _).tr hq0.2.2.2) hfj (bd_no hfj hno) hq0.2.1⟩)) dX10_read_110
  · refine tm_iconst (1) rfl 83 rfl dX10_read_82 ?_
    refine tm_goto 87 rfl dX10_read_83 ?_
    refine tm_istore_2 (by decide) rfl 88 rfl dX10_read_87 ?_
    refine tm_iinc_1 (nI (0 + 1)) (rfl) (by decide) rfl 91 rfl dX10_read_88 ?_
    refine tm_goto 9 rfl dX10_read_91 ?_
    refine (tm_loop (N := 12) (fun k => ∀ (Mx : MI), mdI t s M Mx k → Tm g (d + 4) RX10 cX10_read 6 (some .int) (QIr g (fun r M' L' => L' = L ∧ rmQ t s σ M r M')) 9 [some (rf g 54), some (.int (nI (k + 1))), some (.int 1), none, none, none] [] Mx L) (fun k hk ih Mx hI => ?_) (fun Mx hI => absurd hI.2.2.2.1 (by omega))) _ ?_
    · have hbE := clE_b t s k
      refine tm_iload_2 10 rfl dX10_read_9 ?_
      refine tm_if_eq_f 13 (by decide) rfl rfl dX10_read_10 ?_
      refine tm_iload_1 14 rfl dX10_read_13 ?_
      refine tm_if_eq_f 17 (fun z => absurd ((nI_eq (by omega) (by decide)).mp (show nI (k + 1) = nI 0 from z)) (by omega)) rfl rfl dX10_read_14 ?_
      refine tm_aload_0 18 rfl dX10_read_17 ?_
      refine tm_geti fl_X10_184 rfl rfl 21 rfl dX10_read_18 ?_
      rw [hI.1.2.2.2.1]
      refine tm_aload_0 22 rfl dX10_read_21 ?_
      refine tm_geti fl_X10_181 rfl rfl 25 rfl dX10_read_22 ?_
      rw [hI.1.1]
      refine tm_icmp_ge 94 28 rfl rfl dX10_read_25 (fun h25 => ?_) (fun h25 => ?_)
      · refine tm_iload_2 95 rfl dX10_read_94 ?_
        refine tm_if_ne_t 111 (by decide) rfl dX10_read_95 ?_
        have hend : sg t s (clE t s (pP t s k)) = -1 := sg_out (nI_le_le h25 (by omega) (by omega))
        have hfj : fj t s = k := fj_eq hI.2.2.2.1 (st_n59 (by rw [hend]; decide)) hI.2.2.1
        have hb : bdR t s = false := bd_y hfj hI.2.1 hend
        refine tm_iconst (0) rfl 112 rfl dX10_read_111 ?_
        refine tm_istore_3 (by decide) rfl 113 rfl dX10_read_112 ?_
        refine tm_aload_0 114 rfl dX10_read_113 ?_
        refine tm_iconst (0) rfl 115 rfl dX10_read_114 ?_
        refine tm_puti fl_X10_184 fw_9_10 rfl rfl rfl rfl 118 rfl dX10_read_115 ?_
        refine (tm_loop (N := fj t s + 1) (fun j => ∀ (My : MI), (m2I t s σ M My j) → Tm g (d + 4) RX10 cX10_read 6 (some .int) (QIr g (fun r M' L' => L' = L ∧ rmQ t s σ M r M')) 118 [some (rf g 54), some (.int (nI (k + 1))), some (.int 1), some (.int (nI (rnS t s σ j).1)), none, none] [] My (L)) (fun j hj ih2 My hI2 => ?_) (fun My hI2 => ?_)) _ ?_
        · have hT2 : txM My s t (pP t s j) := by rw [← ap_j hj]; exact hI2.1
          have hf12 := fj_lt t s
          have hbP := pP_b t s j
          refine tm_aload_0 119 rfl dX10_read_118 ?_
          refine tm_geti fl_X10_184 rfl rfl 122 rfl dX10_read_119 ?_
          rw [hI2.1.2.2.2.1]
          refine tm_aload_0 123 rfl dX10_read_122 ?_
          refine tm_geti fl_X10_181 rfl rfl 126 rfl dX10_read_123 ?_
          rw [hI2.1.1]
          refine tm_icmp_ge_f 129 (nI_ge (ap_lt hb hj) (by omega)) rfl rfl dX10_read_126 ?_
          refine tm_aload_0 130 rfl dX10_read_129 ?_
          refine tm_callV_I (ci := 9) (c_X10_here hT2) mv_X10_here ml_X10_187 rfl rfl rfl rfl rfl (Nat.le_of_ble_eq_true rfl) 133 rfl dX10_read_130 ?_
          refine tm_istore_4 (by decide) rfl 135 rfl dX10_read_133 ?_
          refine tm_aload_0 136 rfl dX10_read_135 ?_
          refine tm_callVr_I (ci := 9) (c_X10_hasClause (p := pP t s j) hT2 (by omega)) mv_X10_hasClause ml_X10_236 rfl rfl rfl rfl rfl (Nat.le_of_ble_eq_true rfl) 139 rfl dX10_read_136 (fun r5 M5 L5 hQ5 => ?_)
          obtain ⟨hL5, hq5⟩ := hQ5
          have hL5 := hL5.symm
          subst hL5
          have hr5 : r5 = bI (clO t s (pP t s j)) := hq5.1
          rw [cl_ok hb hj] at hr5
          subst hr5
          have hbJ := clE_b t s j
          have hT5 : txM M5 s t (clE t s (pP t s j)) := hT2.D hq5.2.2.2 hq5.2.1 (by omega)
          refine tm_istore_5 (by decide) rfl 141 rfl dX10_read_139 ?_
          refine tm_aload_0 142 rfl dX10_read_141 ?_
          refine tm_dup rfl 143 rfl dX10_read_142 ?_
          refine tm_geti fl_X10_184 rfl rfl 146 rfl dX10_read_143 ?_
          rw [hT5.2.2.2.1]
          refine tm_aload_0 147 rfl dX10_read_146 ?_
          refine tm_callV_I (ci := 9) (c_X10_here hT5) mv_X10_here ml_X10_187 rfl rfl rfl rfl rfl (Nat.le_of_ble_eq_true rfl) 150 rfl dX10_read_147 ?_
          refine tm_bipush (59) (by decide) 152 rfl dX10_read_150 ?_
          refine tm_icmp_ne 159 155 rfl rfl dX10_read_152 (fun h152 => ?_) (fun h152 => ?_)
          · refine tm_iconst (0) rfl 160 rfl dX10_read_159 ?_
            refine tm_iadd 161 rfl dX10_read_160 ?_
            first | rw [nI_1] | rw [Int32.add_zero]
            refine tm_puti fl_X10_184 fw_9_10 rfl rfl rfl rfl 164 rfl dX10_read_161 ?_
            refine tm_iload_3 165 rfl dX10_read_164 ?_
            refine tm_iload_5 167 rfl dX10_read_165 ?_
            refine tm_if_eq_f 170 (by decide) rfl rfl dX10_read_167 ?_
            refine tm_aload_0 171 rfl dX10_read_170 ?_
            refine tm_iload_4 173 rfl dX10_read_171 ?_
            refine tm_callV_I (ci := 9) (c_X10_isDone (σ := (rnS t s σ j).2) ((hI2.2.1.D hq5.2.2.2).s4 _) (rn_ok t s hσ j) (cl_kd (cl_ok hb hj)) ((hq5.2.2.1 (cl_ok hb hj)).pl _)) mv_X10_isDone ml_X10_239 rfl rfl rfl rfl rfl (Nat.le_of_ble_eq_true rfl) 176 rfl dX10_read_173 ?_
            refine tm_if_eqB 183 179 rfl rfl dX10_read_176 (fun h176 => ?_) (fun h176 => ?_)
            · refine tm_iconst (0) rfl 184 rfl dX10_read_183 ?_
              refine tm_iadd 185 rfl dX10_read_184 ?_
              first | rw [rn_t h176] | rw [rn_f h176]
              refine tm_istore_3 (by decide) rfl 186 rfl dX10_read_185 ?_
              refine tm_goto 118 rfl dX10_read_186 ?_
              exact tm_wkr (ih2 _ (m2_s (by first | (rw [ap_y hb hj h152]; exact hT5.pl (p2 := clE t s (pP t s j) + 1) (by omega)) | (rw [ap_n hj h152]; exact hT5.pl (p2 := clE t s (pP t s j)) (by omega))) ((hI2.2.2.tr (frQ.D hq5.2.2.2)).s1 (by decide) _))) (And.intro rfl (And.intro rfl (And.intro rfl (And.intro rfl trivial))))
            · refine tm_iconst (1) rfl 180 rfl dX10_read_179 ?_
              refine tm_goto 184 rfl dX10_read_180 ?_
              refine tm_iadd 185 rfl dX10_read_184 ?_
              first | rw [rn_t h176] | rw [rn_f h176]
              refine tm_istore_3 (by decide) rfl 186 rfl dX10_read_185 ?_
              refine tm_goto 118 rfl dX10_read_186 ?_
              exact tm_wkr (ih2 _ (m2_s (by first | (rw [ap_y hb hj h152]; exact hT5.pl (p2 := clE t s (pP t s j) + 1) (by omega)) | (rw [ap_n hj h152]; exact hT5.pl (p2 := clE t s (pP t s j)) (by omega))) ((hI2.2.2.tr (frQ.D hq5.2.2.2)).s1 (by decide) _))) (And.intro rfl (And.intro rfl (And.intro rfl (And.intro rfl trivial))))
          · refine tm_iconst (1) rfl 156 rfl dX10_read_155 ?_
            refine tm_goto 160 rfl dX10_read_156 ?_
            refine tm_iadd 161 rfl dX10_read_160 ?_
            first | rw [nI_1] | rw [Int32.add_zero]
            refine tm_puti fl_X10_184 fw_9_10 rfl rfl rfl rfl 164 rfl dX10_read_161 ?_
            refine tm_iload_3 165 rfl dX10_read_164 ?_
            refine tm_iload_5 167 rfl dX10_read_165 ?_
            refine tm_if_eq_f 170 (by decide) rfl rfl dX10_read_167 ?_
            refine tm_aload_0 171 rfl dX10_read_170 ?_
            refine tm_iload_4 173 rfl dX10_read_171 ?_
            refine tm_callV_I (ci := 9) (c_X10_isDone (σ := (rnS t s σ j).2) ((hI2.2.1.D hq5.2.2.2).s4 _) (rn_ok t s hσ j) (cl_kd (cl_ok hb hj)) ((hq5.2.2.1 (cl_ok hb hj)).pl _)) mv_X10_isDone ml_X10_239 rfl rfl rfl rfl rfl (Nat.le_of_ble_eq_true rfl) 176 rfl dX10_read_173 ?_
            refine tm_if_eqB 183 179 rfl rfl dX10_read_176 (fun h176 => ?_) (fun h176 => ?_)
            · refine tm_iconst (0) rfl 184 rfl dX10_read_183 ?_
              refine tm_iadd 185 rfl dX10_read_184 ?_
              first | rw [rn_t h176] | rw [rn_f h176]
              refine tm_istore_3 (by decide) rfl 186 rfl dX10_read_185 ?_
              refine tm_goto 118 rfl dX10_read_186 ?_
              exact tm_wkr (ih2 _ (m2_s (by first | (rw [ap_y hb hj h152]; exact hT5.pl (p2 := clE t s (pP t s j) + 1) (by omega)) | (rw [ap_n hj h152]; exact hT5.pl (p2 := clE t s (pP t s j)) (by omega))) ((hI2.2.2.tr (frQ.D hq5.2.2.2)).s1 (by decide) _))) (And.intro rfl (And.intro rfl (And.intro rfl (And.intro rfl trivial))))
            · refine tm_iconst (1) rfl 180 rfl dX10_read_179 ?_
              refine tm_goto 184 rfl dX10_read_180 ?_
              refine tm_iadd 185 rfl dX10_read_184 ?_
              first | rw [rn_t h176] | rw [rn_f h176]
              refine tm_istore_3 (by decide) rfl 186 rfl dX10_read_185 ?_
              refine tm_goto 118 rfl dX10_read_186 ?_
              exact tm_wkr (ih2 _ (m2_s (by first | (rw [ap_y hb hj h152]; exact hT5.pl (p2 := clE t s (pP t s j) + 1) (by omega)) | (rw [ap_n hj h152]; exact hT5.pl (p2 := clE t s (pP t s j)) (by omega))) ((hI2.2.2.tr (frQ.D hq5.2.2.2)).s1 (by decide) _))) (And.intro rfl (And.intro rfl (And.intro rfl (And.intro rfl trivial))))
        · refine tm_aload_0 119 rfl dX10_read_118 ?_
          refine tm_geti fl_X10_184 rfl rfl 122 rfl dX10_read_119 ?_
          rw [hI2.1.2.2.2.1]
          refine tm_aload_0 123 rfl dX10_read_122 ?_
          refine tm_geti fl_X10_181 rfl rfl 126 rfl dX10_read_123 ?_
          rw [hI2.1.1]
          refine tm_icmp_ge_t 189 (nI_le (ap_e hp hb) (by have := ap_b t s (fj t s + 1); omega)) rfl dX10_read_126 ?_
          refine tm_aload_0 190 rfl dX10_read_189 ?_
          refine tm_iconst (0) rfl 191 rfl dX10_read_190 ?_
          refine tm_puti fl_X10_181 fw_9_9 rfl rfl rfl rfl 194 rfl dX10_read_191 ?_
          refine tm_iload_3 195 rfl dX10_read_194 ?_
          exact tm_iretR ⟨rfl, m2_e hI2 hb⟩ dX10_read_195
        · exact ⟨by rw [ap_j (Nat.succ_pos _)]; exact hI.1.pl (p2 := 0) (by decide), hM.D (hI.2.2.2.2.s1 (by decide) _), (frQ.D hI.2.2.2.2).s1 (by decide) _⟩
      · refine tm_iload_1 29 rfl dX10_read_28 ?_
        refine tm_if_le_f 32 (nI_ge (a := 0) (b := k + 1) (by omega) (by omega)) rfl rfl dX10_read_29 ?_
        refine tm_iload_1 33 rfl dX10_read_32 ?_
        refine tm_bipush (12) (by decide) 35 rfl dX10_read_33 ?_
        refine tm_icmp_ge 51 38 rfl rfl dX10_read_35 (fun h35 => ?_) (fun h35 => ?_)
        · refine tm_iconst (0) rfl 52 rfl dX10_read_51 ?_
          refine tm_istore_2 (by decide) rfl 53 rfl dX10_read_52 ?_
          refine tm_aload_0 54 rfl dX10_read_53 ?_
          refine tm_dup rfl 55 rfl dX10_read_54 ?_
          refine tm_geti fl_X10_184 rfl rfl 58 rfl dX10_read_55 ?_
          rw [hI.1.2.2.2.1]
          refine tm_iload_2 59 rfl dX10_read_58 ?_
          refine tm_if_eq_t 66 (by decide) rfl dX10_read_59 ?_
          refine tm_iconst (0) rfl 67 rfl dX10_read_66 ?_
          refine tm_iadd 68 rfl dX10_read_67 ?_
          first | rw [nI_1] | rw [Int32.add_zero]
          refine tm_puti fl_X10_184 fw_9_10 rfl rfl rfl rfl 71 rfl dX10_read_68 ?_
          refine tm_iload_2 72 rfl dX10_read_71 ?_
          refine tm_if_eq_t 86 (by decide) rfl dX10_read_72 ?_
          refine tm_iconst (0) rfl 87 rfl dX10_read_86 ?_
          refine tm_istore_2 (by decide) rfl 88 rfl dX10_read_87 ?_
          refine tm_iinc_1 (nI (k + 1 + 1)) (iinc1 (k + 1)) (by decide) rfl 91 rfl dX10_read_88 ?_
          refine tm_goto 9 rfl dX10_read_91 ?_
          refine tm_iload_2 10 rfl dX10_read_9 ?_
          refine tm_if_eq_t 94 (by decide) rfl dX10_read_10 ?_
          refine tm_iload_2 95 rfl dX10_read_94 ?_
          refine tm_if_ne_f 98 (by decide) rfl rfl dX10_read_95 ?_
          refine tm_aload_0 99 rfl dX10_read_98 ?_
          refine tm_iconst (0) rfl 100 rfl dX10_read_99 ?_
          refine tm_puti fl_X10_181 fw_9_9 rfl rfl rfl rfl 103 rfl dX10_read_100 ?_
          refine tm_bipush (-10) (by decide) 105 rfl dX10_read_103 ?_
          refine tm_aload_0 106 rfl dX10_read_105 ?_
          refine tm_geti fl_X10_184 rfl rfl 109 rfl dX10_read_106 ?_
          refine tm_isub 110 rfl dX10_read_109 ?_
          exact tm_iretR (by first | (have hno : clO t s (pP t s (k + 1)) = false := h79; have hfj := fj_eq (k := k + 1) (by omega) (sp_no hno) hst; exact ⟨rfl, rm_f hM ((hI.2.2.2.2.s1 (by decide) _).tr hq1.2.2.2) hfj (bd_no hfj hno) hq1.2.1⟩) | (have hlt := nI_nle_lt h25 (by omega) (by omega); have hfj : fj t s = k := fj_eq hI.2.2.2.1 (by first | exact st_n59 h44 | exact st_11 (by have := nI_le_le (b := 12) h35 (by omega) (by decide); omega)) hI.2.2.1; exact ⟨rfl, rm_f hM (hI.2.2.2.2.s1 (by decide) _) hfj (bd_n hfj (sg_in hp hlt)) (s1_eq _ _ _ _)⟩) | (have hno : clO t s (pP t s 0) = false := h79; have hfj := fj_eq (k := 0) (by decide) (sp_no hno) (fun j hj => absurd hj (Nat.not_lt_zero j)); exact ⟨rfl, rm_f hM ((frD.rf.s1 (by decide) _).tr hq0.2.2.2) hfj (bd_no hfj hno) hq0.2.1⟩)) dX10_read_110
        · refine tm_aload_0 39 rfl dX10_read_38 ?_
          refine tm_callV_I (ci := 9) (c_X10_here hI.1) mv_X10_here ml_X10_187 rfl rfl rfl rfl rfl (Nat.le_of_ble_eq_true rfl) 42 rfl dX10_read_39 ?_
          refine tm_bipush (59) (by decide) 44 rfl dX10_read_42 ?_
          refine tm_icmp_ne 51 47 rfl rfl dX10_read_44 (fun h44 => ?_) (fun h44 => ?_)
          · refine tm_iconst (0) rfl 52 rfl dX10_read_51 ?_
            refine tm_istore_2 (by decide) rfl 53 rfl dX10_read_52 ?_
            refine tm_aload_0 54 rfl dX10_read_53 ?_
            refine tm_dup rfl 55 rfl dX10_read_54 ?_
            refine tm_geti fl_X10_184 rfl rfl 58 rfl dX10_read_55 ?_
            rw [hI.1.2.2.2.1]
            refine tm_iload_2 59 rfl dX10_read_58 ?_
            refine tm_if_eq_t 66 (by decide) rfl dX10_read_59 ?_
            refine tm_iconst (0) rfl 67 rfl dX10_read_66 ?_
            refine tm_iadd 68 rfl dX10_read_67 ?_
            first | rw [nI_1] | rw [Int32.add_zero]
            refine tm_puti fl_X10_184 fw_9_10 rfl rfl rfl rfl 71 rfl dX10_read_68 ?_
            refine tm_iload_2 72 rfl dX10_read_71 ?_
            refine tm_if_eq_t 86 (by decide) rfl dX10_read_72 ?_
            refine tm_iconst (0) rfl 87 rfl dX10_read_86 ?_
            refine tm_istore_2 (by decide) rfl 88 rfl dX10_read_87 ?_
            refine tm_iinc_1 (nI (k + 1 + 1)) (iinc1 (k + 1)) (by decide) rfl 91 rfl dX10_read_88 ?_
            refine tm_goto 9 rfl dX10_read_91 ?_
            refine tm_iload_2 10 rfl dX10_read_9 ?_
            refine tm_if_eq_t 94 (by decide) rfl dX10_read_10 ?_
            refine tm_iload_2 95 rfl dX10_read_94 ?_
            refine tm_if_ne_f 98 (by decide) rfl rfl dX10_read_95 ?_
            refine tm_aload_0 99 rfl dX10_read_98 ?_
            refine tm_iconst (0) rfl 100 rfl dX10_read_99 ?_
            refine tm_puti fl_X10_181 fw_9_9 rfl rfl rfl rfl 103 rfl dX10_read_100 ?_
            refine tm_bipush (-10) (by decide) 105 rfl dX10_read_103 ?_
            refine tm_aload_0 106 rfl dX10_read_105 ?_
            refine tm_geti fl_X10_184 rfl rfl 109 rfl dX10_read_106 ?_
            refine tm_isub 110 rfl dX10_read_109 ?_
            exact tm_iretR (by first | (have hno : clO t s (pP t s (k + 1)) = false := h79; have hfj := fj_eq (k := k + 1) (by omega) (sp_no hno) hst; exact ⟨rfl, rm_f hM ((hI.2.2.2.2.s1 (by decide) _).tr hq1.2.2.2) hfj (bd_no hfj hno) hq1.2.1⟩) | (have hlt := nI_nle_lt h25 (by omega) (by omega); have hfj : fj t s = k := fj_eq hI.2.2.2.1 (by first | exact st_n59 h44 | exact st_11 (by have := nI_le_le (b := 12) h35 (by omega) (by decide); omega)) hI.2.2.1; exact ⟨rfl, rm_f hM (hI.2.2.2.2.s1 (by decide) _) hfj (bd_n hfj (sg_in hp hlt)) (s1_eq _ _ _ _)⟩) | (have hno : clO t s (pP t s 0) = false := h79; have hfj := fj_eq (k := 0) (by decide) (sp_no hno) (fun j hj => absurd hj (Nat.not_lt_zero j)); exact ⟨rfl, rm_f hM ((frD.rf.s1 (by decide) _).tr hq0.2.2.2) hfj (bd_no hfj hno) hq0.2.1⟩)) dX10_read_110
          · refine tm_iconst (1) rfl 48 rfl dX10_read_47 ?_
            refine tm_goto 52 rfl dX10_read_48 ?_
            refine tm_istore_2 (by decide) rfl 53 rfl dX10_read_52 ?_
            refine tm_aload_0 54 rfl dX10_read_53 ?_
            refine tm_dup rfl 55 rfl dX10_read_54 ?_
            refine tm_geti fl_X10_184 rfl rfl 58 rfl dX10_read_55 ?_
            rw [hI.1.2.2.2.1]
            refine tm_iload_2 59 rfl dX10_read_58 ?_
            refine tm_if_eq_f 62 (by decide) rfl rfl dX10_read_59 ?_
            refine tm_iconst (1) rfl 63 rfl dX10_read_62 ?_
            refine tm_goto 67 rfl dX10_read_63 ?_
            refine tm_iadd 68 rfl dX10_read_67 ?_
            first | rw [nI_1] | rw [Int32.add_zero]
            refine tm_puti fl_X10_184 fw_9_10 rfl rfl rfl rfl 71 rfl dX10_read_68 ?_
            refine tm_iload_2 72 rfl dX10_read_71 ?_
            refine tm_if_eq_f 75 (by decide) rfl rfl dX10_read_72 ?_
            refine tm_aload_0 76 rfl dX10_read_75 ?_
            refine tm_callVr_I (ci := 9) (c_X10_hasClause (p := pP t s (k + 1)) (hI.1.pl (p2 := clE t s (pP t s k) + 1) (by omega)) (by have := pP_b t s (k + 1); omega)) mv_X10_hasClause ml_X10_236 rfl rfl rfl rfl rfl (Nat.le_of_ble_eq_true rfl) 79 rfl dX10_read_76 (fun r1 M1 L1 hQ => ?_)
            obtain ⟨hL1, hq1⟩ := hQ
            have hL1 := hL1.symm
            subst hL1
            have hr1 : r1 = bI (clO t s (pP t s (k + 1))) := hq1.1
            subst hr1
            have h12 := nI_nle_lt (b := 12) h35 (by omega) (by decide)
            have hst : ∀ j, j < k + 1 → stp t s j = false := fun j hj => by
              rcases Nat.lt_succ_iff_lt_or_eq.mp hj with z | z
              · exact hI.2.2.1 j z
              · rw [z]; exact st_y hI.2.1 h44 (by omega)
            have hbE1 := clE_b t s (k + 1)
            refine tm_if_eqB 86 82 rfl rfl dX10_read_79 (fun h79 => ?_) (fun h79 => ?_)
            · refine tm_iconst (0) rfl 87 rfl dX10_read_86 ?_
              refine tm_istore_2 (by decide) rfl 88 rfl dX10_read_87 ?_
              refine tm_iinc_1 (nI (k + 1 + 1)) (iinc1 (k + 1)) (by decide) rfl 91 rfl dX10_read_88 ?_
              refine tm_goto 9 rfl dX10_read_91 ?_
              refine tm_iload_2 10 rfl dX10_read_9 ?_
              refine tm_if_eq_t 94 (by decide) rfl dX10_read_10 ?_
              refine tm_iload_2 95 rfl dX10_read_94 ?_
              refine tm_if_ne_f 98 (by decide) rfl rfl dX10_read_95 ?_
              refine tm_aload_0 99 rfl dX10_read_98 ?_
              refine tm_iconst (0) rfl 100 rfl dX10_read_99 ?_
              refine tm_puti fl_X10_181 fw_9_9 rfl rfl rfl rfl 103 rfl dX10_read_100 ?_
              refine tm_bipush (-10) (by decide) 105 rfl dX10_read_103 ?_
              refine tm_aload_0 106 rfl dX10_read_105 ?_
              refine tm_geti fl_X10_184 rfl rfl 109 rfl dX10_read_106 ?_
              refine tm_isub 110 rfl dX10_read_109 ?_
              exact tm_iretR (by first | (have hno : clO t s (pP t s (k + 1)) = false := h79; have hfj := fj_eq (k := k + 1) (by omega) (sp_no hno) hst; exact ⟨rfl, rm_f hM ((hI.2.2.2.2.s1 (by decide) _).tr hq1.2.2.2) hfj (bd_no hfj hno) hq1.2.1⟩) | (have hlt := nI_nle_lt h25 (by omega) (by omega); have hfj : fj t s = k := fj_eq hI.2.2.2.1 (by first | exact st_n59 h44 | exact st_11 (by have := nI_le_le (b := 12) h35 (by omega) (by decide); omega)) hI.2.2.1; exact ⟨rfl, rm_f hM (hI.2.2.2.2.s1 (by decide) _) hfj (bd_n hfj (sg_in hp hlt)) (s1_eq _ _ _ _)⟩) | (have hno : clO t s (pP t s 0) = false := h79; have hfj := fj_eq (k := 0) (by decide) (sp_no hno) (fun j hj => absurd hj (Nat.not_lt_zero j)); exact ⟨rfl, rm_f hM ((frD.rf.s1 (by decide) _).tr hq0.2.2.2) hfj (bd_no hfj hno) hq0.2.1⟩)) dX10_read_110
            · refine tm_iconst (1) rfl 83 rfl dX10_read_82 ?_
              refine tm_goto 87 rfl dX10_read_83 ?_
              refine tm_istore_2 (by decide) rfl 88 rfl dX10_read_87 ?_
              refine tm_iinc_1 (nI (k + 1 + 1)) (iinc1 (k + 1)) (by decide) rfl 91 rfl dX10_read_88 ?_
              refine tm_goto 9 rfl dX10_read_91 ?_
              exact ih _ ⟨(hI.1.pl (p2 := clE t s (pP t s k) + 1) (by omega)).D hq1.2.2.2 hq1.2.1 (by omega), h79, hst, by omega, (hI.2.2.2.2.s1 (by decide) _).tr hq1.2.2.2⟩
    · exact ⟨hT0.D hq0.2.2.2 hq0.2.1 (by have := clE_b t s 0; omega), h79, fun j hj => absurd hj (Nat.not_lt_zero j), by decide, (frD.rf.s1 (by decide) _).tr hq0.2.2.2⟩


/-! the model's clauses -/
theorem lt0 (t : Nat → Int32) (s p : Nat) : ltJ t s p 0 = 0 := by have := ltJ_le t s p 0; omega
theorem lt1 (t : Nat → Int32) (s p : Nat) : ltJ t s p 1 = if dB (sg t s p) = true then 1 else 0 := by
  cases h : dB (sg t s p)
  · exact ltJ_1 (d := 0) (by decide) (fun j hj => absurd hj (Nat.not_lt_zero j)) h
  · exact ltJ_2 (fun j hj => by rw [show j = 0 by omega]; exact h)
theorem lt2 (t : Nat → Int32) (s p : Nat) : ltJ t s p 2 = if dB (sg t s p) = true then (if dB (sg t s (p + 1)) = true then 2 else 1) else 0 := by
  cases h : dB (sg t s p)
  · exact ltJ_1 (d := 0) (by decide) (fun j hj => absurd hj (Nat.not_lt_zero j)) h
  · cases h2 : dB (sg t s (p + 1))
    · exact ltJ_1 (d := 1) (by decide) (fun j hj => by rw [show j = 0 by omega]; exact h) h2
    · refine ltJ_2 (fun j hj => ?_)
      rcases (show j = 0 ∨ j = 1 by omega) with rfl | rfl
      · exact h
      · exact h2
theorem lt1_y {b : Bool} (h : (1 : Int32) ≤ nI (if b = true then 1 else 0)) : b = true := by cases b; exact absurd h (by decide); rfl
theorem lt1_n {b : Bool} (h : ¬ (1 : Int32) ≤ nI (if b = true then 1 else 0)) : b = false := by cases b; rfl; exact absurd (by decide) h
theorem lt2_y {a b : Bool} (h : (2 : Int32) ≤ nI (if a = true then (if b = true then 2 else 1) else 0)) : a = true ∧ b = true := by cases a <;> cases b <;> first | exact absurd h (by decide) | exact ⟨rfl, rfl⟩
theorem lt2_n {a b : Bool} (h : ¬ (2 : Int32) ≤ nI (if a = true then (if b = true then 2 else 1) else 0)) : a = false ∨ (a = true ∧ b = false) := by cases a <;> cases b <;> first | exact absurd (by decide) h | exact Or.inl rfl | exact Or.inr ⟨rfl, rfl⟩
def dgQ (K : Nat) (t : Nat → Int32) (s p : Nat) (M : MI) : Prop := (K = 1 ∨ K = 3 ∨ K = 5 → M 62 0 = fsK K t s p) ∧ (K = 5 → M 62 1 = scK K t s p) ∧ (K = 3 → M 54 13 = scK K t s p) ∧ (K = 4 → M 54 13 = fsK K t s p) ∧ (K = 2 → M 54 12 = nI (ltJ t s (p + 1) 4) ∧ ∀ j, j < ltJ t s (p + 1) 4 → M 62 j = sg t s (p + 1 + j) - 48)
def hcQ (K : Nat) (t : Nat → Int32) (s p : Nat) (M : MI) (r : Int32) (M' : MI) : Prop := r = bI (okK K t s p) ∧ M' 54 10 = nI (enK K t s p) ∧ (okK K t s p = true → dgQ K t s p M') ∧ frD M M'
theorem bI_t {b : Bool} (h : b = true) : (1 : Int32) = bI b := by rw [h]; rfl
theorem bI_f {b : Bool} (h : b = false) : (0 : Int32) = bI b := by rw [h]; rfl
theorem t_f {b : Bool} {P : Prop} (h : b = false) (h2 : b = true) : P := by rw [h] at h2; cases h2
set_option maxRecDepth 100000 in
set_option maxHeartbeats 4000000 in
theorem c_X10_hasClause_110 {g : GC} {d : Nat} {M : MI} {L : ML} {s p : Nat} {t : Nat → Int32} (hT : txM M s t p) (hk : sg t s p = 110) (hp9 : p < 800) : CrI g (d + 3) yX10_hasClause cX10_hasClause 4 .boolean [rf g 54] M L (fun r M' L' => L' = L ∧ hcQ 1 t s p M r M') := by
  refine crI_of (own := RX10) (l := [some (rf g 54), none, none, none]) 3 rfl rfl rfl (Nat.le_of_ble_eq_true rfl) ?_
  refine tm_aload_0 1 rfl dX10_hasClause_0 ?_
  refine tm_callV_I (ci := 9) (c_X10_here hT) mv_X10_here ml_X10_187 rfl rfl rfl rfl rfl (Nat.le_of_ble_eq_true rfl) 4 rfl dX10_hasClause_1 ?_
  rw [hk]
  refine tm_istore_1 (by decide) rfl 5 rfl dX10_hasClause_4 ?_
  refine tm_iload_1 6 rfl dX10_hasClause_5 ?_
  refine tm_bipush (110) (by decide) 8 rfl dX10_hasClause_6 ?_
  refine tm_icmp_eq_t 23 (by decide) rfl dX10_hasClause_8 ?_
  refine tm_iconst (1) rfl 24 rfl dX10_hasClause_23 ?_
  refine tm_goto 38 rfl dX10_hasClause_24 ?_
  refine tm_istore_2 (by decide) rfl 39 rfl dX10_hasClause_38 ?_
  refine tm_iload_2 40 rfl dX10_hasClause_39 ?_
  refine tm_if_gt_t 85 (by decide) rfl dX10_hasClause_40 ?_
  refine tm_iconst (1) rfl 86 rfl dX10_hasClause_85 ?_
  refine tm_goto 90 rfl dX10_hasClause_86 ?_
  refine tm_istore_3 (by decide) rfl 91 rfl dX10_hasClause_90 ?_
  refine tm_iload_3 92 rfl dX10_hasClause_91 ?_
  refine tm_if_ne_t 97 (by decide) rfl dX10_hasClause_92 ?_
  refine tm_aload_0 98 rfl dX10_hasClause_97 ?_
  refine tm_dup rfl 99 rfl dX10_hasClause_98 ?_
  refine tm_geti fl_X10_184 rfl rfl 102 rfl dX10_hasClause_99 ?_
  rw [hT.2.2.2.1]
  refine tm_iconst (1) rfl 103 rfl dX10_hasClause_102 ?_
  refine tm_iadd 104 rfl dX10_hasClause_103 ?_
  rw [nI_1]
  refine tm_puti fl_X10_184 fw_9_10 rfl rfl rfl rfl 107 rfl dX10_hasClause_104 ?_
  refine tm_aload_0 108 rfl dX10_hasClause_107 ?_
  refine tm_iload_1 109 rfl dX10_hasClause_108 ?_
  refine tm_bipush (43) (by decide) 111 rfl dX10_hasClause_109 ?_
  refine tm_icmp_eq_f 114 (by decide) rfl rfl dX10_hasClause_111 ?_
  refine tm_iload_1 115 rfl dX10_hasClause_114 ?_
  refine tm_bipush (45) (by decide) 117 rfl dX10_hasClause_115 ?_
  refine tm_icmp_ne_t 124 (by decide) rfl dX10_hasClause_117 ?_
  refine tm_iload_2 125 rfl dX10_hasClause_124 ?_
  refine tm_callVr_V (ci := 9) (c_X10_takes (m := 1) (hT.pl (p2 := p + 1) (by omega)) (by decide) (by omega)) mv_X10_takes ml_X10_203 rfl rfl rfl rfl rfl (Nat.le_of_ble_eq_true rfl) 128 rfl dX10_hasClause_125 (fun M2 L2 hQ => ?_)
  obtain ⟨hL2, hq⟩ := hQ
  have hL2 := hL2.symm
  subst hL2
  refine tm_aload_0 129 rfl dX10_hasClause_128 ?_
  refine tm_geti fl_X10_194 rfl rfl 132 rfl dX10_hasClause_129 ?_
  rw [hq.1, lt1]
  refine tm_iload_2 133 rfl dX10_hasClause_132 ?_
  refine tm_icmp_ge 138 136 rfl rfl dX10_hasClause_133 (fun h133 => ?_) (fun h133 => ?_)
  · have y0 : dB (sg t s (p + 1)) = true := lt1_y h133
    refine tm_iload_1 139 rfl dX10_hasClause_138 ?_
    refine tm_bipush (119) (by decide) 141 rfl dX10_hasClause_139 ?_
    refine tm_icmp_eq_f 144 (by decide) rfl rfl dX10_hasClause_141 ?_
    refine tm_iload_1 145 rfl dX10_hasClause_144 ?_
    refine tm_bipush (113) (by decide) 147 rfl dX10_hasClause_145 ?_
    refine tm_icmp_ne_t 157 (by decide) rfl dX10_hasClause_147 ?_
    refine tm_iconst (1) rfl 158 rfl dX10_hasClause_157 ?_
    refine tm_goto 162 rfl dX10_hasClause_158 ?_
    exact tm_zretR (by decide) ⟨rfl, bI_t y0, by rw [hq.2.1, lt1, if_pos y0]; simp [enK, y0], fun _ => ⟨fun _ => by rw [hq.2.2.1 0 (by rw [lt1, if_pos y0]; decide)]; rfl, (fun z => absurd z (by decide)), (fun z => absurd z (by decide)), (fun z => absurd z (by decide)), (fun z => absurd z (by decide))⟩, (frD.rf.s1 (by decide) _).tr hq.2.2.2⟩ dX10_hasClause_162
  · have y0 : dB (sg t s (p + 1)) = false := lt1_n h133
    refine tm_iconst (0) rfl 137 rfl dX10_hasClause_136 ?_
    exact tm_zretR (by decide) ⟨rfl, bI_f y0, by rw [hq.2.1, lt1, y0]; simp [enK, y0], fun z => t_f y0 z, (frD.rf.s1 (by decide) _).tr hq.2.2.2⟩ dX10_hasClause_137

set_option maxRecDepth 100000 in
set_option maxHeartbeats 4000000 in
theorem c_X10_hasClause_116 {g : GC} {d : Nat} {M : MI} {L : ML} {s p : Nat} {t : Nat → Int32} (hT : txM M s t p) (hk : sg t s p = 116) (hp9 : p < 800) : CrI g (d + 3) yX10_hasClause cX10_hasClause 4 .boolean [rf g 54] M L (fun r M' L' => L' = L ∧ hcQ 1 t s p M r M') := by
  refine crI_of (own := RX10) (l := [some (rf g 54), none, none, none]) 3 rfl rfl rfl (Nat.le_of_ble_eq_true rfl) ?_
  refine tm_aload_0 1 rfl dX10_hasClause_0 ?_
  refine tm_callV_I (ci := 9) (c_X10_here hT) mv_X10_here ml_X10_187 rfl rfl rfl rfl rfl (Nat.le_of_ble_eq_true rfl) 4 rfl dX10_hasClause_1 ?_
  rw [hk]
  refine tm_istore_1 (by decide) rfl 5 rfl dX10_hasClause_4 ?_
  refine tm_iload_1 6 rfl dX10_hasClause_5 ?_
  refine tm_bipush (110) (by decide) 8 rfl dX10_hasClause_6 ?_
  refine tm_icmp_eq_f 11 (by decide) rfl rfl dX10_hasClause_8 ?_
  refine tm_iload_1 12 rfl dX10_hasClause_11 ?_
  refine tm_bipush (116) (by decide) 14 rfl dX10_hasClause_12 ?_
  refine tm_icmp_eq_t 23 (by decide) rfl dX10_hasClause_14 ?_
  refine tm_iconst (1) rfl 24 rfl dX10_hasClause_23 ?_
  refine tm_goto 38 rfl dX10_hasClause_24 ?_
  refine tm_istore_2 (by decide) rfl 39 rfl dX10_hasClause_38 ?_
  refine tm_iload_2 40 rfl dX10_hasClause_39 ?_
  refine tm_if_gt_t 85 (by decide) rfl dX10_hasClause_40 ?_
  refine tm_iconst (1) rfl 86 rfl dX10_hasClause_85 ?_
  refine tm_goto 90 rfl dX10_hasClause_86 ?_
  refine tm_istore_3 (by decide) rfl 91 rfl dX10_hasClause_90 ?_
  refine tm_iload_3 92 rfl dX10_hasClause_91 ?_
  refine tm_if_ne_t 97 (by decide) rfl dX10_hasClause_92 ?_
  refine tm_aload_0 98 rfl dX10_hasClause_97 ?_
  refine tm_dup rfl 99 rfl dX10_hasClause_98 ?_
  refine tm_geti fl_X10_184 rfl rfl 102 rfl dX10_hasClause_99 ?_
  rw [hT.2.2.2.1]
  refine tm_iconst (1) rfl 103 rfl dX10_hasClause_102 ?_
  refine tm_iadd 104 rfl dX10_hasClause_103 ?_
  rw [nI_1]
  refine tm_puti fl_X10_184 fw_9_10 rfl rfl rfl rfl 107 rfl dX10_hasClause_104 ?_
  refine tm_aload_0 108 rfl dX10_hasClause_107 ?_
  refine tm_iload_1 109 rfl dX10_hasClause_108 ?_
  refine tm_bipush (43) (by decide) 111 rfl dX10_hasClause_109 ?_
  refine tm_icmp_eq_f 114 (by decide) rfl rfl dX10_hasClause_111 ?_
  refine tm_iload_1 115 rfl dX10_hasClause_114 ?_
  refine tm_bipush (45) (by decide) 117 rfl dX10_hasClause_115 ?_
  refine tm_icmp_ne_t 124 (by decide) rfl dX10_hasClause_117 ?_
  refine tm_iload_2 125 rfl dX10_hasClause_124 ?_
  refine tm_callVr_V (ci := 9) (c_X10_takes (m := 1) (hT.pl (p2 := p + 1) (by omega)) (by decide) (by omega)) mv_X10_takes ml_X10_203 rfl rfl rfl rfl rfl (Nat.le_of_ble_eq_true rfl) 128 rfl dX10_hasClause_125 (fun M2 L2 hQ => ?_)
  obtain ⟨hL2, hq⟩ := hQ
  have hL2 := hL2.symm
  subst hL2
  refine tm_aload_0 129 rfl dX10_hasClause_128 ?_
  refine tm_geti fl_X10_194 rfl rfl 132 rfl dX10_hasClause_129 ?_
  rw [hq.1, lt1]
  refine tm_iload_2 133 rfl dX10_hasClause_132 ?_
  refine tm_icmp_ge 138 136 rfl rfl dX10_hasClause_133 (fun h133 => ?_) (fun h133 => ?_)
  · have y0 : dB (sg t s (p + 1)) = true := lt1_y h133
    refine tm_iload_1 139 rfl dX10_hasClause_138 ?_
    refine tm_bipush (119) (by decide) 141 rfl dX10_hasClause_139 ?_
    refine tm_icmp_eq_f 144 (by decide) rfl rfl dX10_hasClause_141 ?_
    refine tm_iload_1 145 rfl dX10_hasClause_144 ?_
    refine tm_bipush (113) (by decide) 147 rfl dX10_hasClause_145 ?_
    refine tm_icmp_ne_t 157 (by decide) rfl dX10_hasClause_147 ?_
    refine tm_iconst (1) rfl 158 rfl dX10_hasClause_157 ?_
    refine tm_goto 162 rfl dX10_hasClause_158 ?_
    exact tm_zretR (by decide) ⟨rfl, bI_t y0, by rw [hq.2.1, lt1, if_pos y0]; simp [enK, y0], fun _ => ⟨fun _ => by rw [hq.2.2.1 0 (by rw [lt1, if_pos y0]; decide)]; rfl, (fun z => absurd z (by decide)), (fun z => absurd z (by decide)), (fun z => absurd z (by decide)), (fun z => absurd z (by decide))⟩, (frD.rf.s1 (by decide) _).tr hq.2.2.2⟩ dX10_hasClause_162
  · have y0 : dB (sg t s (p + 1)) = false := lt1_n h133
    refine tm_iconst (0) rfl 137 rfl dX10_hasClause_136 ?_
    exact tm_zretR (by decide) ⟨rfl, bI_f y0, by rw [hq.2.1, lt1, y0]; simp [enK, y0], fun z => t_f y0 z, (frD.rf.s1 (by decide) _).tr hq.2.2.2⟩ dX10_hasClause_137

set_option maxRecDepth 100000 in
set_option maxHeartbeats 4000000 in
theorem c_X10_hasClause_43 {g : GC} {d : Nat} {M : MI} {L : ML} {s p : Nat} {t : Nat → Int32} (hT : txM M s t p) (hk : sg t s p = 43) (hp9 : p < 800) : CrI g (d + 3) yX10_hasClause cX10_hasClause 4 .boolean [rf g 54] M L (fun r M' L' => L' = L ∧ hcQ 2 t s p M r M') := by
  refine crI_of (own := RX10) (l := [some (rf g 54), none, none, none]) 3 rfl rfl rfl (Nat.le_of_ble_eq_true rfl) ?_
  refine tm_aload_0 1 rfl dX10_hasClause_0 ?_
  refine tm_callV_I (ci := 9) (c_X10_here hT) mv_X10_here ml_X10_187 rfl rfl rfl rfl rfl (Nat.le_of_ble_eq_true rfl) 4 rfl dX10_hasClause_1 ?_
  rw [hk]
  refine tm_istore_1 (by decide) rfl 5 rfl dX10_hasClause_4 ?_
  refine tm_iload_1 6 rfl dX10_hasClause_5 ?_
  refine tm_bipush (110) (by decide) 8 rfl dX10_hasClause_6 ?_
  refine tm_icmp_eq_f 11 (by decide) rfl rfl dX10_hasClause_8 ?_
  refine tm_iload_1 12 rfl dX10_hasClause_11 ?_
  refine tm_bipush (116) (by decide) 14 rfl dX10_hasClause_12 ?_
  refine tm_icmp_eq_f 17 (by decide) rfl rfl dX10_hasClause_14 ?_
  refine tm_iload_1 18 rfl dX10_hasClause_17 ?_
  refine tm_bipush (119) (by decide) 20 rfl dX10_hasClause_18 ?_
  refine tm_icmp_ne_t 27 (by decide) rfl dX10_hasClause_20 ?_
  refine tm_iload_1 28 rfl dX10_hasClause_27 ?_
  refine tm_bipush (120) (by decide) 30 rfl dX10_hasClause_28 ?_
  refine tm_icmp_ne_t 37 (by decide) rfl dX10_hasClause_30 ?_
  refine tm_iconst (0) rfl 38 rfl dX10_hasClause_37 ?_
  refine tm_istore_2 (by decide) rfl 39 rfl dX10_hasClause_38 ?_
  refine tm_iload_2 40 rfl dX10_hasClause_39 ?_
  refine tm_if_gt_f 43 (by decide) rfl rfl dX10_hasClause_40 ?_
  refine tm_iload_1 44 rfl dX10_hasClause_43 ?_
  refine tm_bipush (43) (by decide) 46 rfl dX10_hasClause_44 ?_
  refine tm_icmp_eq_t 85 (by decide) rfl dX10_hasClause_46 ?_
  refine tm_iconst (1) rfl 86 rfl dX10_hasClause_85 ?_
  refine tm_goto 90 rfl dX10_hasClause_86 ?_
  refine tm_istore_3 (by decide) rfl 91 rfl dX10_hasClause_90 ?_
  refine tm_iload_3 92 rfl dX10_hasClause_91 ?_
  refine tm_if_ne_t 97 (by decide) rfl dX10_hasClause_92 ?_
  refine tm_aload_0 98 rfl dX10_hasClause_97 ?_
  refine tm_dup rfl 99 rfl dX10_hasClause_98 ?_
  refine tm_geti fl_X10_184 rfl rfl 102 rfl dX10_hasClause_99 ?_
  rw [hT.2.2.2.1]
  refine tm_iconst (1) rfl 103 rfl dX10_hasClause_102 ?_
  refine tm_iadd 104 rfl dX10_hasClause_103 ?_
  rw [nI_1]
  refine tm_puti fl_X10_184 fw_9_10 rfl rfl rfl rfl 107 rfl dX10_hasClause_104 ?_
  refine tm_aload_0 108 rfl dX10_hasClause_107 ?_
  refine tm_iload_1 109 rfl dX10_hasClause_108 ?_
  refine tm_bipush (43) (by decide) 111 rfl dX10_hasClause_109 ?_
  refine tm_icmp_eq_t 120 (by decide) rfl dX10_hasClause_111 ?_
  refine tm_iconst (4) rfl 121 rfl dX10_hasClause_120 ?_
  refine tm_goto 125 rfl dX10_hasClause_121 ?_
  refine tm_callVr_V (ci := 9) (c_X10_takes (m := 4) (hT.pl (p2 := p + 1) (by omega)) (by decide) (by omega)) mv_X10_takes ml_X10_203 rfl rfl rfl rfl rfl (Nat.le_of_ble_eq_true rfl) 128 rfl dX10_hasClause_125 (fun M2 L2 hQ => ?_)
  obtain ⟨hL2, hq⟩ := hQ
  have hL2 := hL2.symm
  subst hL2
  refine tm_aload_0 129 rfl dX10_hasClause_128 ?_
  refine tm_geti fl_X10_194 rfl rfl 132 rfl dX10_hasClause_129 ?_
  rw [hq.1]
  refine tm_iload_2 133 rfl dX10_hasClause_132 ?_
  refine tm_icmp_ge_t 138 (nI_le (a := 0) (Nat.zero_le _) (by have := ltJ_le t s (p + 1) 4; omega)) rfl dX10_hasClause_133 ?_
  refine tm_iload_1 139 rfl dX10_hasClause_138 ?_
  refine tm_bipush (119) (by decide) 141 rfl dX10_hasClause_139 ?_
  refine tm_icmp_eq_f 144 (by decide) rfl rfl dX10_hasClause_141 ?_
  refine tm_iload_1 145 rfl dX10_hasClause_144 ?_
  refine tm_bipush (113) (by decide) 147 rfl dX10_hasClause_145 ?_
  refine tm_icmp_ne_t 157 (by decide) rfl dX10_hasClause_147 ?_
  refine tm_iconst (1) rfl 158 rfl dX10_hasClause_157 ?_
  refine tm_goto 162 rfl dX10_hasClause_158 ?_
  exact tm_zretR (by decide) ⟨rfl, rfl, hq.2.1, fun _ => ⟨(fun z => absurd z (by decide)), (fun z => absurd z (by decide)), (fun z => absurd z (by decide)), (fun z => absurd z (by decide)), fun _ => ⟨hq.1, hq.2.2.1⟩⟩, (frD.rf.s1 (by decide) _).tr hq.2.2.2⟩ dX10_hasClause_162

set_option maxRecDepth 100000 in
set_option maxHeartbeats 4000000 in
theorem c_X10_hasClause_45 {g : GC} {d : Nat} {M : MI} {L : ML} {s p : Nat} {t : Nat → Int32} (hT : txM M s t p) (hk : sg t s p = 45) (hp9 : p < 800) : CrI g (d + 3) yX10_hasClause cX10_hasClause 4 .boolean [rf g 54] M L (fun r M' L' => L' = L ∧ hcQ 2 t s p M r M') := by
  refine crI_of (own := RX10) (l := [some (rf g 54), none, none, none]) 3 rfl rfl rfl (Nat.le_of_ble_eq_true rfl) ?_
  refine tm_aload_0 1 rfl dX10_hasClause_0 ?_
  refine tm_callV_I (ci := 9) (c_X10_here hT) mv_X10_here ml_X10_187 rfl rfl rfl rfl rfl (Nat.le_of_ble_eq_true rfl) 4 rfl dX10_hasClause_1 ?_
  rw [hk]
  refine tm_istore_1 (by decide) rfl 5 rfl dX10_hasClause_4 ?_
  refine tm_iload_1 6 rfl dX10_hasClause_5 ?_
  refine tm_bipush (110) (by decide) 8 rfl dX10_hasClause_6 ?_
  refine tm_icmp_eq_f 11 (by decide) rfl rfl dX10_hasClause_8 ?_
  refine tm_iload_1 12 rfl dX10_hasClause_11 ?_
  refine tm_bipush (116) (by decide) 14 rfl dX10_hasClause_12 ?_
  refine tm_icmp_eq_f 17 (by decide) rfl rfl dX10_hasClause_14 ?_
  refine tm_iload_1 18 rfl dX10_hasClause_17 ?_
  refine tm_bipush (119) (by decide) 20 rfl dX10_hasClause_18 ?_
  refine tm_icmp_ne_t 27 (by decide) rfl dX10_hasClause_20 ?_
  refine tm_iload_1 28 rfl dX10_hasClause_27 ?_
  refine tm_bipush (120) (by decide) 30 rfl dX10_hasClause_28 ?_
  refine tm_icmp_ne_t 37 (by decide) rfl dX10_hasClause_30 ?_
  refine tm_iconst (0) rfl 38 rfl dX10_hasClause_37 ?_
  refine tm_istore_2 (by decide) rfl 39 rfl dX10_hasClause_38 ?_
  refine tm_iload_2 40 rfl dX10_hasClause_39 ?_
  refine tm_if_gt_f 43 (by decide) rfl rfl dX10_hasClause_40 ?_
  refine tm_iload_1 44 rfl dX10_hasClause_43 ?_
  refine tm_bipush (43) (by decide) 46 rfl dX10_hasClause_44 ?_
  refine tm_icmp_eq_f 49 (by decide) rfl rfl dX10_hasClause_46 ?_
  refine tm_iload_1 50 rfl dX10_hasClause_49 ?_
  refine tm_bipush (45) (by decide) 52 rfl dX10_hasClause_50 ?_
  refine tm_icmp_eq_t 85 (by decide) rfl dX10_hasClause_52 ?_
  refine tm_iconst (1) rfl 86 rfl dX10_hasClause_85 ?_
  refine tm_goto 90 rfl dX10_hasClause_86 ?_
  refine tm_istore_3 (by decide) rfl 91 rfl dX10_hasClause_90 ?_
  refine tm_iload_3 92 rfl dX10_hasClause_91 ?_
  refine tm_if_ne_t 97 (by decide) rfl dX10_hasClause_92 ?_
  refine tm_aload_0 98 rfl dX10_hasClause_97 ?_
  refine tm_dup rfl 99 rfl dX10_hasClause_98 ?_
  refine tm_geti fl_X10_184 rfl rfl 102 rfl dX10_hasClause_99 ?_
  rw [hT.2.2.2.1]
  refine tm_iconst (1) rfl 103 rfl dX10_hasClause_102 ?_
  refine tm_iadd 104 rfl dX10_hasClause_103 ?_
  rw [nI_1]
  refine tm_puti fl_X10_184 fw_9_10 rfl rfl rfl rfl 107 rfl dX10_hasClause_104 ?_
  refine tm_aload_0 108 rfl dX10_hasClause_107 ?_
  refine tm_iload_1 109 rfl dX10_hasClause_108 ?_
  refine tm_bipush (43) (by decide) 111 rfl dX10_hasClause_109 ?_
  refine tm_icmp_eq_f 114 (by decide) rfl rfl dX10_hasClause_111 ?_
  refine tm_iload_1 115 rfl dX10_hasClause_114 ?_
  refine tm_bipush (45) (by decide) 117 rfl dX10_hasClause_115 ?_
  refine tm_icmp_ne_f 120 (by decide) rfl rfl dX10_hasClause_117 ?_
  refine tm_iconst (4) rfl 121 rfl dX10_hasClause_120 ?_
  refine tm_goto 125 rfl dX10_hasClause_121 ?_
  refine tm_callVr_V (ci := 9) (c_X10_takes (m := 4) (hT.pl (p2 := p + 1) (by omega)) (by decide) (by omega)) mv_X10_takes ml_X10_203 rfl rfl rfl rfl rfl (Nat.le_of_ble_eq_true rfl) 128 rfl dX10_hasClause_125 (fun M2 L2 hQ => ?_)
  obtain ⟨hL2, hq⟩ := hQ
  have hL2 := hL2.symm
  subst hL2
  refine tm_aload_0 129 rfl dX10_hasClause_128 ?_
  refine tm_geti fl_X10_194 rfl rfl 132 rfl dX10_hasClause_129 ?_
  rw [hq.1]
  refine tm_iload_2 133 rfl dX10_hasClause_132 ?_
  refine tm_icmp_ge_t 138 (nI_le (a := 0) (Nat.zero_le _) (by have := ltJ_le t s (p + 1) 4; omega)) rfl dX10_hasClause_133 ?_
  refine tm_iload_1 139 rfl dX10_hasClause_138 ?_
  refine tm_bipush (119) (by decide) 141 rfl dX10_hasClause_139 ?_
  refine tm_icmp_eq_f 144 (by decide) rfl rfl dX10_hasClause_141 ?_
  refine tm_iload_1 145 rfl dX10_hasClause_144 ?_
  refine tm_bipush (113) (by decide) 147 rfl dX10_hasClause_145 ?_
  refine tm_icmp_ne_t 157 (by decide) rfl dX10_hasClause_147 ?_
  refine tm_iconst (1) rfl 158 rfl dX10_hasClause_157 ?_
  refine tm_goto 162 rfl dX10_hasClause_158 ?_
  exact tm_zretR (by decide) ⟨rfl, rfl, hq.2.1, fun _ => ⟨(fun z => absurd z (by decide)), (fun z => absurd z (by decide)), (fun z => absurd z (by decide)), (fun z => absurd z (by decide)), fun _ => ⟨hq.1, hq.2.2.1⟩⟩, (frD.rf.s1 (by decide) _).tr hq.2.2.2⟩ dX10_hasClause_162

set_option maxRecDepth 100000 in
set_option maxHeartbeats 4000000 in
theorem c_X10_hasClause_119 {g : GC} {d : Nat} {M : MI} {L : ML} {s p : Nat} {t : Nat → Int32} (hT : txM M s t p) (hk : sg t s p = 119) (hp9 : p < 800) : CrI g (d + 3) yX10_hasClause cX10_hasClause 4 .boolean [rf g 54] M L (fun r M' L' => L' = L ∧ hcQ 3 t s p M r M') := by
  refine crI_of (own := RX10) (l := [some (rf g 54), none, none, none]) 3 rfl rfl rfl (Nat.le_of_ble_eq_true rfl) ?_
  refine tm_aload_0 1 rfl dX10_hasClause_0 ?_
  refine tm_callV_I (ci := 9) (c_X10_here hT) mv_X10_here ml_X10_187 rfl rfl rfl rfl rfl (Nat.le_of_ble_eq_true rfl) 4 rfl dX10_hasClause_1 ?_
  rw [hk]
  refine tm_istore_1 (by decide) rfl 5 rfl dX10_hasClause_4 ?_
  refine tm_iload_1 6 rfl dX10_hasClause_5 ?_
  refine tm_bipush (110) (by decide) 8 rfl dX10_hasClause_6 ?_
  refine tm_icmp_eq_f 11 (by decide) rfl rfl dX10_hasClause_8 ?_
  refine tm_iload_1 12 rfl dX10_hasClause_11 ?_
  refine tm_bipush (116) (by decide) 14 rfl dX10_hasClause_12 ?_
  refine tm_icmp_eq_f 17 (by decide) rfl rfl dX10_hasClause_14 ?_
  refine tm_iload_1 18 rfl dX10_hasClause_17 ?_
  refine tm_bipush (119) (by decide) 20 rfl dX10_hasClause_18 ?_
  refine tm_icmp_ne_f 23 (by decide) rfl rfl dX10_hasClause_20 ?_
  refine tm_iconst (1) rfl 24 rfl dX10_hasClause_23 ?_
  refine tm_goto 38 rfl dX10_hasClause_24 ?_
  refine tm_istore_2 (by decide) rfl 39 rfl dX10_hasClause_38 ?_
  refine tm_iload_2 40 rfl dX10_hasClause_39 ?_
  refine tm_if_gt_t 85 (by decide) rfl dX10_hasClause_40 ?_
  refine tm_iconst (1) rfl 86 rfl dX10_hasClause_85 ?_
  refine tm_goto 90 rfl dX10_hasClause_86 ?_
  refine tm_istore_3 (by decide) rfl 91 rfl dX10_hasClause_90 ?_
  refine tm_iload_3 92 rfl dX10_hasClause_91 ?_
  refine tm_if_ne_t 97 (by decide) rfl dX10_hasClause_92 ?_
  refine tm_aload_0 98 rfl dX10_hasClause_97 ?_
  refine tm_dup rfl 99 rfl dX10_hasClause_98 ?_
  refine tm_geti fl_X10_184 rfl rfl 102 rfl dX10_hasClause_99 ?_
  rw [hT.2.2.2.1]
  refine tm_iconst (1) rfl 103 rfl dX10_hasClause_102 ?_
  refine tm_iadd 104 rfl dX10_hasClause_103 ?_
  rw [nI_1]
  refine tm_puti fl_X10_184 fw_9_10 rfl rfl rfl rfl 107 rfl dX10_hasClause_104 ?_
  refine tm_aload_0 108 rfl dX10_hasClause_107 ?_
  refine tm_iload_1 109 rfl dX10_hasClause_108 ?_
  refine tm_bipush (43) (by decide) 111 rfl dX10_hasClause_109 ?_
  refine tm_icmp_eq_f 114 (by decide) rfl rfl dX10_hasClause_111 ?_
  refine tm_iload_1 115 rfl dX10_hasClause_114 ?_
  refine tm_bipush (45) (by decide) 117 rfl dX10_hasClause_115 ?_
  refine tm_icmp_ne_t 124 (by decide) rfl dX10_hasClause_117 ?_
  refine tm_iload_2 125 rfl dX10_hasClause_124 ?_
  refine tm_callVr_V (ci := 9) (c_X10_takes (m := 1) (hT.pl (p2 := p + 1) (by omega)) (by decide) (by omega)) mv_X10_takes ml_X10_203 rfl rfl rfl rfl rfl (Nat.le_of_ble_eq_true rfl) 128 rfl dX10_hasClause_125 (fun M2 L2 hQ => ?_)
  obtain ⟨hL2, hq⟩ := hQ
  have hL2 := hL2.symm
  subst hL2
  refine tm_aload_0 129 rfl dX10_hasClause_128 ?_
  refine tm_geti fl_X10_194 rfl rfl 132 rfl dX10_hasClause_129 ?_
  rw [hq.1, lt1]
  refine tm_iload_2 133 rfl dX10_hasClause_132 ?_
  refine tm_icmp_ge 138 136 rfl rfl dX10_hasClause_133 (fun h133 => ?_) (fun h133 => ?_)
  · have y0 : dB (sg t s (p + 1)) = true := lt1_y h133
    refine tm_iload_1 139 rfl dX10_hasClause_138 ?_
    refine tm_bipush (119) (by decide) 141 rfl dX10_hasClause_139 ?_
    refine tm_icmp_eq_t 150 (by decide) rfl dX10_hasClause_141 ?_
    have hT2 : txM M2 s t (p + 2) := (hT.pl (p2 := p + 1) (by omega)).D hq.2.2.2 (by rw [hq.2.1, lt1, if_pos y0]) (by omega)
    refine tm_aload_0 151 rfl dX10_hasClause_150 ?_
    refine tm_callVr_I (ci := 9) (c_X10_hasNumber hT2 (by omega)) mv_X10_hasNumber ml_X10_206 rfl rfl rfl rfl rfl (Nat.le_of_ble_eq_true rfl) 154 rfl dX10_hasClause_151 (fun r3 M3 L3 hQ3 => ?_)
    obtain ⟨hL3, hu⟩ := hQ3
    have hL3 := hL3.symm
    subst hL3
    have hr3 := hu.1
    subst hr3
    refine tm_if_eqB 161 157 rfl rfl dX10_hasClause_154 (fun h154 => ?_) (fun h154 => ?_)
    · have z1 : dB (sg t s (nb1 t s (p + 2))) = false := h154
      refine tm_iconst (0) rfl 162 rfl dX10_hasClause_161 ?_
      exact tm_zretR (by decide) (by first | exact ⟨rfl, bI_t (by unfold okK; rw [y0, show dB (sg t s (nb1 t s (p + 2))) = true from z1]; rfl), by rw [hu.2.1, z1]; simp [enK, y0, z1], fun _ => ⟨fun _ => by rw [hu.2.2.2 62 0 (by omega), hq.2.2.1 0 (by rw [lt1, if_pos y0]; decide)]; rfl, (fun z => absurd z (by decide)), fun _ => hu.2.2.1 z1, (fun z => absurd z (by decide)), (fun z => absurd z (by decide))⟩, ((frD.rf.s1 (by decide) _).tr hq.2.2.2).tr (frD.N hu.2.2.2)⟩ | exact ⟨rfl, bI_f (by unfold okK; rw [y0, show dB (sg t s (nb1 t s (p + 2))) = false from z1]; rfl), by rw [hu.2.1, z1]; simp [enK, y0, z1], fun z => t_f (by unfold okK; rw [y0, show dB (sg t s (nb1 t s (p + 2))) = false from z1]; rfl) z, ((frD.rf.s1 (by decide) _).tr hq.2.2.2).tr (frD.N hu.2.2.2)⟩) dX10_hasClause_162
    · have z1 : dB (sg t s (nb1 t s (p + 2))) = true := h154
      refine tm_iconst (1) rfl 158 rfl dX10_hasClause_157 ?_
      refine tm_goto 162 rfl dX10_hasClause_158 ?_
      exact tm_zretR (by decide) (by first | exact ⟨rfl, bI_t (by unfold okK; rw [y0, show dB (sg t s (nb1 t s (p + 2))) = true from z1]; rfl), by rw [hu.2.1, z1]; simp [enK, y0, z1], fun _ => ⟨fun _ => by rw [hu.2.2.2 62 0 (by omega), hq.2.2.1 0 (by rw [lt1, if_pos y0]; decide)]; rfl, (fun z => absurd z (by decide)), fun _ => hu.2.2.1 z1, (fun z => absurd z (by decide)), (fun z => absurd z (by decide))⟩, ((frD.rf.s1 (by decide) _).tr hq.2.2.2).tr (frD.N hu.2.2.2)⟩ | exact ⟨rfl, bI_f (by unfold okK; rw [y0, show dB (sg t s (nb1 t s (p + 2))) = false from z1]; rfl), by rw [hu.2.1, z1]; simp [enK, y0, z1], fun z => t_f (by unfold okK; rw [y0, show dB (sg t s (nb1 t s (p + 2))) = false from z1]; rfl) z, ((frD.rf.s1 (by decide) _).tr hq.2.2.2).tr (frD.N hu.2.2.2)⟩) dX10_hasClause_162
  · have y0 : dB (sg t s (p + 1)) = false := lt1_n h133
    refine tm_iconst (0) rfl 137 rfl dX10_hasClause_136 ?_
    exact tm_zretR (by decide) ⟨rfl, bI_f (by unfold okK; rw [y0]; rfl), by rw [hq.2.1, lt1, y0]; simp [enK, y0], fun z => t_f (by unfold okK; rw [y0]; rfl) z, (frD.rf.s1 (by decide) _).tr hq.2.2.2⟩ dX10_hasClause_137

set_option maxRecDepth 100000 in
set_option maxHeartbeats 4000000 in
theorem c_X10_hasClause_113 {g : GC} {d : Nat} {M : MI} {L : ML} {s p : Nat} {t : Nat → Int32} (hT : txM M s t p) (hk : sg t s p = 113) (hp9 : p < 800) : CrI g (d + 3) yX10_hasClause cX10_hasClause 4 .boolean [rf g 54] M L (fun r M' L' => L' = L ∧ hcQ 4 t s p M r M') := by
  refine crI_of (own := RX10) (l := [some (rf g 54), none, none, none]) 3 rfl rfl rfl (Nat.le_of_ble_eq_true rfl) ?_
  refine tm_aload_0 1 rfl dX10_hasClause_0 ?_
  refine tm_callV_I (ci := 9) (c_X10_here hT) mv_X10_here ml_X10_187 rfl rfl rfl rfl rfl (Nat.le_of_ble_eq_true rfl) 4 rfl dX10_hasClause_1 ?_
  rw [hk]
  refine tm_istore_1 (by decide) rfl 5 rfl dX10_hasClause_4 ?_
  refine tm_iload_1 6 rfl dX10_hasClause_5 ?_
  refine tm_bipush (110) (by decide) 8 rfl dX10_hasClause_6 ?_
  refine tm_icmp_eq_f 11 (by decide) rfl rfl dX10_hasClause_8 ?_
  refine tm_iload_1 12 rfl dX10_hasClause_11 ?_
  refine tm_bipush (116) (by decide) 14 rfl dX10_hasClause_12 ?_
  refine tm_icmp_eq_f 17 (by decide) rfl rfl dX10_hasClause_14 ?_
  refine tm_iload_1 18 rfl dX10_hasClause_17 ?_
  refine tm_bipush (119) (by decide) 20 rfl dX10_hasClause_18 ?_
  refine tm_icmp_ne_t 27 (by decide) rfl dX10_hasClause_20 ?_
  refine tm_iload_1 28 rfl dX10_hasClause_27 ?_
  refine tm_bipush (120) (by decide) 30 rfl dX10_hasClause_28 ?_
  refine tm_icmp_ne_t 37 (by decide) rfl dX10_hasClause_30 ?_
  refine tm_iconst (0) rfl 38 rfl dX10_hasClause_37 ?_
  refine tm_istore_2 (by decide) rfl 39 rfl dX10_hasClause_38 ?_
  refine tm_iload_2 40 rfl dX10_hasClause_39 ?_
  refine tm_if_gt_f 43 (by decide) rfl rfl dX10_hasClause_40 ?_
  refine tm_iload_1 44 rfl dX10_hasClause_43 ?_
  refine tm_bipush (43) (by decide) 46 rfl dX10_hasClause_44 ?_
  refine tm_icmp_eq_f 49 (by decide) rfl rfl dX10_hasClause_46 ?_
  refine tm_iload_1 50 rfl dX10_hasClause_49 ?_
  refine tm_bipush (45) (by decide) 52 rfl dX10_hasClause_50 ?_
  refine tm_icmp_eq_f 55 (by decide) rfl rfl dX10_hasClause_52 ?_
  refine tm_iload_1 56 rfl dX10_hasClause_55 ?_
  refine tm_bipush (113) (by decide) 58 rfl dX10_hasClause_56 ?_
  refine tm_icmp_eq_t 85 (by decide) rfl dX10_hasClause_58 ?_
  refine tm_iconst (1) rfl 86 rfl dX10_hasClause_85 ?_
  refine tm_goto 90 rfl dX10_hasClause_86 ?_
  refine tm_istore_3 (by decide) rfl 91 rfl dX10_hasClause_90 ?_
  refine tm_iload_3 92 rfl dX10_hasClause_91 ?_
  refine tm_if_ne_t 97 (by decide) rfl dX10_hasClause_92 ?_
  refine tm_aload_0 98 rfl dX10_hasClause_97 ?_
  refine tm_dup rfl 99 rfl dX10_hasClause_98 ?_
  refine tm_geti fl_X10_184 rfl rfl 102 rfl dX10_hasClause_99 ?_
  rw [hT.2.2.2.1]
  refine tm_iconst (1) rfl 103 rfl dX10_hasClause_102 ?_
  refine tm_iadd 104 rfl dX10_hasClause_103 ?_
  rw [nI_1]
  refine tm_puti fl_X10_184 fw_9_10 rfl rfl rfl rfl 107 rfl dX10_hasClause_104 ?_
  refine tm_aload_0 108 rfl dX10_hasClause_107 ?_
  refine tm_iload_1 109 rfl dX10_hasClause_108 ?_
  refine tm_bipush (43) (by decide) 111 rfl dX10_hasClause_109 ?_
  refine tm_icmp_eq_f 114 (by decide) rfl rfl dX10_hasClause_111 ?_
  refine tm_iload_1 115 rfl dX10_hasClause_114 ?_
  refine tm_bipush (45) (by decide) 117 rfl dX10_hasClause_115 ?_
  refine tm_icmp_ne_t 124 (by decide) rfl dX10_hasClause_117 ?_
  refine tm_iload_2 125 rfl dX10_hasClause_124 ?_
  refine tm_callVr_V (ci := 9) (c_X10_takes (m := 0) (hT.pl (p2 := p + 1) (by omega)) (by decide) (by omega)) mv_X10_takes ml_X10_203 rfl rfl rfl rfl rfl (Nat.le_of_ble_eq_true rfl) 128 rfl dX10_hasClause_125 (fun M2 L2 hQ => ?_)
  obtain ⟨hL2, hq⟩ := hQ
  have hL2 := hL2.symm
  subst hL2
  refine tm_aload_0 129 rfl dX10_hasClause_128 ?_
  refine tm_geti fl_X10_194 rfl rfl 132 rfl dX10_hasClause_129 ?_
  rw [hq.1]
  refine tm_iload_2 133 rfl dX10_hasClause_132 ?_
  refine tm_icmp_ge_t 138 (nI_le (a := 0) (Nat.zero_le _) (by have := ltJ_le t s (p + 1) 0; omega)) rfl dX10_hasClause_133 ?_
  refine tm_iload_1 139 rfl dX10_hasClause_138 ?_
  refine tm_bipush (119) (by decide) 141 rfl dX10_hasClause_139 ?_
  refine tm_icmp_eq_f 144 (by decide) rfl rfl dX10_hasClause_141 ?_
  refine tm_iload_1 145 rfl dX10_hasClause_144 ?_
  refine tm_bipush (113) (by decide) 147 rfl dX10_hasClause_145 ?_
  refine tm_icmp_ne_f 150 (by decide) rfl rfl dX10_hasClause_147 ?_
  have hT2 : txM M2 s t (p + 1) := (hT.pl (p2 := p + 1) (by omega)).D hq.2.2.2 (by rw [hq.2.1, lt0, Nat.add_zero]) (by omega)
  refine tm_aload_0 151 rfl dX10_hasClause_150 ?_
  refine tm_callVr_I (ci := 9) (c_X10_hasNumber hT2 (by omega)) mv_X10_hasNumber ml_X10_206 rfl rfl rfl rfl rfl (Nat.le_of_ble_eq_true rfl) 154 rfl dX10_hasClause_151 (fun r3 M3 L3 hQ3 => ?_)
  obtain ⟨hL3, hu⟩ := hQ3
  have hL3 := hL3.symm
  subst hL3
  have hr3 := hu.1
  subst hr3
  refine tm_if_eqB 161 157 rfl rfl dX10_hasClause_154 (fun h154 => ?_) (fun h154 => ?_)
  · have z1 : dB (sg t s (nb1 t s (p + 1))) = false := h154
    refine tm_iconst (0) rfl 162 rfl dX10_hasClause_161 ?_
    exact tm_zretR (by decide) (by first | exact ⟨rfl, bI_t z1, by rw [hu.2.1, z1]; simp [enK, z1], fun _ => ⟨(fun z => absurd z (by decide)), (fun z => absurd z (by decide)), (fun z => absurd z (by decide)), fun _ => hu.2.2.1 z1, (fun z => absurd z (by decide))⟩, ((frD.rf.s1 (by decide) _).tr hq.2.2.2).tr (frD.N hu.2.2.2)⟩ | exact ⟨rfl, bI_f z1, by rw [hu.2.1, z1]; simp [enK, z1], fun z => t_f z1 z, ((frD.rf.s1 (by decide) _).tr hq.2.2.2).tr (frD.N hu.2.2.2)⟩) dX10_hasClause_162
  · have z1 : dB (sg t s (nb1 t s (p + 1))) = true := h154
    refine tm_iconst (1) rfl 158 rfl dX10_hasClause_157 ?_
    refine tm_goto 162 rfl dX10_hasClause_158 ?_
    exact tm_zretR (by decide) (by first | exact ⟨rfl, bI_t z1, by rw [hu.2.1, z1]; simp [enK, z1], fun _ => ⟨(fun z => absurd z (by decide)), (fun z => absurd z (by decide)), (fun z => absurd z (by decide)), fun _ => hu.2.2.1 z1, (fun z => absurd z (by decide))⟩, ((frD.rf.s1 (by decide) _).tr hq.2.2.2).tr (frD.N hu.2.2.2)⟩ | exact ⟨rfl, bI_f z1, by rw [hu.2.1, z1]; simp [enK, z1], fun z => t_f z1 z, ((frD.rf.s1 (by decide) _).tr hq.2.2.2).tr (frD.N hu.2.2.2)⟩) dX10_hasClause_162

set_option maxRecDepth 100000 in
set_option maxHeartbeats 4000000 in
theorem c_X10_hasClause_120 {g : GC} {d : Nat} {M : MI} {L : ML} {s p : Nat} {t : Nat → Int32} (hT : txM M s t p) (hk : sg t s p = 120) (hp9 : p < 800) : CrI g (d + 3) yX10_hasClause cX10_hasClause 4 .boolean [rf g 54] M L (fun r M' L' => L' = L ∧ hcQ 5 t s p M r M') := by
  refine crI_of (own := RX10) (l := [some (rf g 54), none, none, none]) 3 rfl rfl rfl (Nat.le_of_ble_eq_true rfl) ?_
  refine tm_aload_0 1 rfl dX10_hasClause_0 ?_
  refine tm_callV_I (ci := 9) (c_X10_here hT) mv_X10_here ml_X10_187 rfl rfl rfl rfl rfl (Nat.le_of_ble_eq_true rfl) 4 rfl dX10_hasClause_1 ?_
  rw [hk]
  refine tm_istore_1 (by decide) rfl 5 rfl dX10_hasClause_4 ?_
  refine tm_iload_1 6 rfl dX10_hasClause_5 ?_
  refine tm_bipush (110) (by decide) 8 rfl dX10_hasClause_6 ?_
  refine tm_icmp_eq_f 11 (by decide) rfl rfl dX10_hasClause_8 ?_
  refine tm_iload_1 12 rfl dX10_hasClause_11 ?_
  refine tm_bipush (116) (by decide) 14 rfl dX10_hasClause_12 ?_
  refine tm_icmp_eq_f 17 (by decide) rfl rfl dX10_hasClause_14 ?_
  refine tm_iload_1 18 rfl dX10_hasClause_17 ?_
  refine tm_bipush (119) (by decide) 20 rfl dX10_hasClause_18 ?_
  refine tm_icmp_ne_t 27 (by decide) rfl dX10_hasClause_20 ?_
  refine tm_iload_1 28 rfl dX10_hasClause_27 ?_
  refine tm_bipush (120) (by decide) 30 rfl dX10_hasClause_28 ?_
  refine tm_icmp_ne_f 33 (by decide) rfl rfl dX10_hasClause_30 ?_
  refine tm_iconst (2) rfl 34 rfl dX10_hasClause_33 ?_
  refine tm_goto 38 rfl dX10_hasClause_34 ?_
  refine tm_istore_2 (by decide) rfl 39 rfl dX10_hasClause_38 ?_
  refine tm_iload_2 40 rfl dX10_hasClause_39 ?_
  refine tm_if_gt_t 85 (by decide) rfl dX10_hasClause_40 ?_
  refine tm_iconst (1) rfl 86 rfl dX10_hasClause_85 ?_
  refine tm_goto 90 rfl dX10_hasClause_86 ?_
  refine tm_istore_3 (by decide) rfl 91 rfl dX10_hasClause_90 ?_
  refine tm_iload_3 92 rfl dX10_hasClause_91 ?_
  refine tm_if_ne_t 97 (by decide) rfl dX10_hasClause_92 ?_
  refine tm_aload_0 98 rfl dX10_hasClause_97 ?_
  refine tm_dup rfl 99 rfl dX10_hasClause_98 ?_
  refine tm_geti fl_X10_184 rfl rfl 102 rfl dX10_hasClause_99 ?_
  rw [hT.2.2.2.1]
  refine tm_iconst (1) rfl 103 rfl dX10_hasClause_102 ?_
  refine tm_iadd 104 rfl dX10_hasClause_103 ?_
  rw [nI_1]
  refine tm_puti fl_X10_184 fw_9_10 rfl rfl rfl rfl 107 rfl dX10_hasClause_104 ?_
  refine tm_aload_0 108 rfl dX10_hasClause_107 ?_
  refine tm_iload_1 109 rfl dX10_hasClause_108 ?_
  refine tm_bipush (43) (by decide) 111 rfl dX10_hasClause_109 ?_
  refine tm_icmp_eq_f 114 (by decide) rfl rfl dX10_hasClause_111 ?_
  refine tm_iload_1 115 rfl dX10_hasClause_114 ?_
  refine tm_bipush (45) (by decide) 117 rfl dX10_hasClause_115 ?_
  refine tm_icmp_ne_t 124 (by decide) rfl dX10_hasClause_117 ?_
  refine tm_iload_2 125 rfl dX10_hasClause_124 ?_
  refine tm_callVr_V (ci := 9) (c_X10_takes (m := 2) (hT.pl (p2 := p + 1) (by omega)) (by decide) (by omega)) mv_X10_takes ml_X10_203 rfl rfl rfl rfl rfl (Nat.le_of_ble_eq_true rfl) 128 rfl dX10_hasClause_125 (fun M2 L2 hQ => ?_)
  obtain ⟨hL2, hq⟩ := hQ
  have hL2 := hL2.symm
  subst hL2
  refine tm_aload_0 129 rfl dX10_hasClause_128 ?_
  refine tm_geti fl_X10_194 rfl rfl 132 rfl dX10_hasClause_129 ?_
  rw [hq.1, lt2]
  refine tm_iload_2 133 rfl dX10_hasClause_132 ?_
  refine tm_icmp_ge 138 136 rfl rfl dX10_hasClause_133 (fun h133 => ?_) (fun h133 => ?_)
  · have y0 := lt2_y h133
    refine tm_iload_1 139 rfl dX10_hasClause_138 ?_
    refine tm_bipush (119) (by decide) 141 rfl dX10_hasClause_139 ?_
    refine tm_icmp_eq_f 144 (by decide) rfl rfl dX10_hasClause_141 ?_
    refine tm_iload_1 145 rfl dX10_hasClause_144 ?_
    refine tm_bipush (113) (by decide) 147 rfl dX10_hasClause_145 ?_
    refine tm_icmp_ne_t 157 (by decide) rfl dX10_hasClause_147 ?_
    refine tm_iconst (1) rfl 158 rfl dX10_hasClause_157 ?_
    refine tm_goto 162 rfl dX10_hasClause_158 ?_
    exact tm_zretR (by decide) ⟨rfl, bI_t (by unfold okK; rw [y0.1, show dB (sg t s (p + 2)) = true from y0.2]; rfl), by rw [hq.2.1, lt2, if_pos y0.1, if_pos y0.2]; simp [enK, y0.1, show dB (sg t s (p + 2)) = true from y0.2], fun _ => ⟨fun _ => by rw [hq.2.2.1 0 (by rw [lt2, if_pos y0.1, if_pos y0.2]; decide)]; rfl, fun _ => by rw [hq.2.2.1 1 (by rw [lt2, if_pos y0.1, if_pos y0.2]; decide)]; rfl, (fun z => absurd z (by decide)), (fun z => absurd z (by decide)), (fun z => absurd z (by decide))⟩, (frD.rf.s1 (by decide) _).tr hq.2.2.2⟩ dX10_hasClause_162
  · have y0 := lt2_n h133
    refine tm_iconst (0) rfl 137 rfl dX10_hasClause_136 ?_
    exact tm_zretR (by decide) (by rcases y0 with y0 | y0; exact ⟨rfl, bI_f (by unfold okK; rw [y0]; rfl), by rw [hq.2.1, lt2, y0]; simp [enK, y0], fun z => t_f (by unfold okK; rw [y0]; rfl) z, (frD.rf.s1 (by decide) _).tr hq.2.2.2⟩; exact ⟨rfl, bI_f (by unfold okK; rw [y0.1, show dB (sg t s (p + 2)) = false from y0.2]; rfl), by rw [hq.2.1, lt2, y0.1, y0.2]; simp [enK, y0.1, show dB (sg t s (p + 2)) = false from y0.2], fun z => t_f (by unfold okK; rw [y0.1, show dB (sg t s (p + 2)) = false from y0.2]; rfl) z, (frD.rf.s1 (by decide) _).tr hq.2.2.2⟩) dX10_hasClause_137

set_option maxRecDepth 100000 in
set_option maxHeartbeats 4000000 in
theorem c_X10_hasClause_103 {g : GC} {d : Nat} {M : MI} {L : ML} {s p : Nat} {t : Nat → Int32} (hT : txM M s t p) (hk : sg t s p = 103) (hp9 : p < 800) : CrI g (d + 3) yX10_hasClause cX10_hasClause 4 .boolean [rf g 54] M L (fun r M' L' => L' = L ∧ hcQ 6 t s p M r M') := by
  refine crI_of (own := RX10) (l := [some (rf g 54), none, none, none]) 3 rfl rfl rfl (Nat.le_of_ble_eq_true rfl) ?_
  refine tm_aload_0 1 rfl dX10_hasClause_0 ?_
  refine tm_callV_I (ci := 9) (c_X10_here hT) mv_X10_here ml_X10_187 rfl rfl rfl rfl rfl (Nat.le_of_ble_eq_true rfl) 4 rfl dX10_hasClause_1 ?_
  rw [hk]
  refine tm_istore_1 (by decide) rfl 5 rfl dX10_hasClause_4 ?_
  refine tm_iload_1 6 rfl dX10_hasClause_5 ?_
  refine tm_bipush (110) (by decide) 8 rfl dX10_hasClause_6 ?_
  refine tm_icmp_eq_f 11 (by decide) rfl rfl dX10_hasClause_8 ?_
  refine tm_iload_1 12 rfl dX10_hasClause_11 ?_
  refine tm_bipush (116) (by decide) 14 rfl dX10_hasClause_12 ?_
  refine tm_icmp_eq_f 17 (by decide) rfl rfl dX10_hasClause_14 ?_
  refine tm_iload_1 18 rfl dX10_hasClause_17 ?_
  refine tm_bipush (119) (by decide) 20 rfl dX10_hasClause_18 ?_
  refine tm_icmp_ne_t 27 (by decide) rfl dX10_hasClause_20 ?_
  refine tm_iload_1 28 rfl dX10_hasClause_27 ?_
  refine tm_bipush (120) (by decide) 30 rfl dX10_hasClause_28 ?_
  refine tm_icmp_ne_t 37 (by decide) rfl dX10_hasClause_30 ?_
  refine tm_iconst (0) rfl 38 rfl dX10_hasClause_37 ?_
  refine tm_istore_2 (by decide) rfl 39 rfl dX10_hasClause_38 ?_
  refine tm_iload_2 40 rfl dX10_hasClause_39 ?_
  refine tm_if_gt_f 43 (by decide) rfl rfl dX10_hasClause_40 ?_
  refine tm_iload_1 44 rfl dX10_hasClause_43 ?_
  refine tm_bipush (43) (by decide) 46 rfl dX10_hasClause_44 ?_
  refine tm_icmp_eq_f 49 (by decide) rfl rfl dX10_hasClause_46 ?_
  refine tm_iload_1 50 rfl dX10_hasClause_49 ?_
  refine tm_bipush (45) (by decide) 52 rfl dX10_hasClause_50 ?_
  refine tm_icmp_eq_f 55 (by decide) rfl rfl dX10_hasClause_52 ?_
  refine tm_iload_1 56 rfl dX10_hasClause_55 ?_
  refine tm_bipush (113) (by decide) 58 rfl dX10_hasClause_56 ?_
  refine tm_icmp_eq_f 61 (by decide) rfl rfl dX10_hasClause_58 ?_
  refine tm_iload_1 62 rfl dX10_hasClause_61 ?_
  refine tm_bipush (103) (by decide) 64 rfl dX10_hasClause_62 ?_
  refine tm_icmp_eq_t 85 (by decide) rfl dX10_hasClause_64 ?_
  refine tm_iconst (1) rfl 86 rfl dX10_hasClause_85 ?_
  refine tm_goto 90 rfl dX10_hasClause_86 ?_
  refine tm_istore_3 (by decide) rfl 91 rfl dX10_hasClause_90 ?_
  refine tm_iload_3 92 rfl dX10_hasClause_91 ?_
  refine tm_if_ne_t 97 (by decide) rfl dX10_hasClause_92 ?_
  refine tm_aload_0 98 rfl dX10_hasClause_97 ?_
  refine tm_dup rfl 99 rfl dX10_hasClause_98 ?_
  refine tm_geti fl_X10_184 rfl rfl 102 rfl dX10_hasClause_99 ?_
  rw [hT.2.2.2.1]
  refine tm_iconst (1) rfl 103 rfl dX10_hasClause_102 ?_
  refine tm_iadd 104 rfl dX10_hasClause_103 ?_
  rw [nI_1]
  refine tm_puti fl_X10_184 fw_9_10 rfl rfl rfl rfl 107 rfl dX10_hasClause_104 ?_
  refine tm_aload_0 108 rfl dX10_hasClause_107 ?_
  refine tm_iload_1 109 rfl dX10_hasClause_108 ?_
  refine tm_bipush (43) (by decide) 111 rfl dX10_hasClause_109 ?_
  refine tm_icmp_eq_f 114 (by decide) rfl rfl dX10_hasClause_111 ?_
  refine tm_iload_1 115 rfl dX10_hasClause_114 ?_
  refine tm_bipush (45) (by decide) 117 rfl dX10_hasClause_115 ?_
  refine tm_icmp_ne_t 124 (by decide) rfl dX10_hasClause_117 ?_
  refine tm_iload_2 125 rfl dX10_hasClause_124 ?_
  refine tm_callVr_V (ci := 9) (c_X10_takes (m := 0) (hT.pl (p2 := p + 1) (by omega)) (by decide) (by omega)) mv_X10_takes ml_X10_203 rfl rfl rfl rfl rfl (Nat.le_of_ble_eq_true rfl) 128 rfl dX10_hasClause_125 (fun M2 L2 hQ => ?_)
  obtain ⟨hL2, hq⟩ := hQ
  have hL2 := hL2.symm
  subst hL2
  refine tm_aload_0 129 rfl dX10_hasClause_128 ?_
  refine tm_geti fl_X10_194 rfl rfl 132 rfl dX10_hasClause_129 ?_
  rw [hq.1]
  refine tm_iload_2 133 rfl dX10_hasClause_132 ?_
  refine tm_icmp_ge_t 138 (nI_le (a := 0) (Nat.zero_le _) (by have := ltJ_le t s (p + 1) 0; omega)) rfl dX10_hasClause_133 ?_
  refine tm_iload_1 139 rfl dX10_hasClause_138 ?_
  refine tm_bipush (119) (by decide) 141 rfl dX10_hasClause_139 ?_
  refine tm_icmp_eq_f 144 (by decide) rfl rfl dX10_hasClause_141 ?_
  refine tm_iload_1 145 rfl dX10_hasClause_144 ?_
  refine tm_bipush (113) (by decide) 147 rfl dX10_hasClause_145 ?_
  refine tm_icmp_ne_t 157 (by decide) rfl dX10_hasClause_147 ?_
  refine tm_iconst (1) rfl 158 rfl dX10_hasClause_157 ?_
  refine tm_goto 162 rfl dX10_hasClause_158 ?_
  exact tm_zretR (by decide) ⟨rfl, rfl, by rw [hq.2.1, lt0]; rfl, fun _ => ⟨(fun z => absurd z (by decide)), (fun z => absurd z (by decide)), (fun z => absurd z (by decide)), (fun z => absurd z (by decide)), (fun z => absurd z (by decide))⟩, (frD.rf.s1 (by decide) _).tr hq.2.2.2⟩ dX10_hasClause_162

set_option maxRecDepth 100000 in
set_option maxHeartbeats 4000000 in
theorem c_X10_hasClause_100 {g : GC} {d : Nat} {M : MI} {L : ML} {s p : Nat} {t : Nat → Int32} (hT : txM M s t p) (hk : sg t s p = 100) (hp9 : p < 800) : CrI g (d + 3) yX10_hasClause cX10_hasClause 4 .boolean [rf g 54] M L (fun r M' L' => L' = L ∧ hcQ 6 t s p M r M') := by
  refine crI_of (own := RX10) (l := [some (rf g 54), none, none, none]) 3 rfl rfl rfl (Nat.le_of_ble_eq_true rfl) ?_
  refine tm_aload_0 1 rfl dX10_hasClause_0 ?_
  refine tm_callV_I (ci := 9) (c_X10_here hT) mv_X10_here ml_X10_187 rfl rfl rfl rfl rfl (Nat.le_of_ble_eq_true rfl) 4 rfl dX10_hasClause_1 ?_
  rw [hk]
  refine tm_istore_1 (by decide) rfl 5 rfl dX10_hasClause_4 ?_
  refine tm_iload_1 6 rfl dX10_hasClause_5 ?_
  refine tm_bipush (110) (by decide) 8 rfl dX10_hasClause_6 ?_
  refine tm_icmp_eq_f 11 (by decide) rfl rfl dX10_hasClause_8 ?_
  refine tm_iload_1 12 rfl dX10_hasClause_11 ?_
  refine tm_bipush (116) (by decide) 14 rfl dX10_hasClause_12 ?_
  refine tm_icmp_eq_f 17 (by decide) rfl rfl dX10_hasClause_14 ?_
  refine tm_iload_1 18 rfl dX10_hasClause_17 ?_
  refine tm_bipush (119) (by decide) 20 rfl dX10_hasClause_18 ?_
  refine tm_icmp_ne_t 27 (by decide) rfl dX10_hasClause_20 ?_
  refine tm_iload_1 28 rfl dX10_hasClause_27 ?_
  refine tm_bipush (120) (by decide) 30 rfl dX10_hasClause_28 ?_
  refine tm_icmp_ne_t 37 (by decide) rfl dX10_hasClause_30 ?_
  refine tm_iconst (0) rfl 38 rfl dX10_hasClause_37 ?_
  refine tm_istore_2 (by decide) rfl 39 rfl dX10_hasClause_38 ?_
  refine tm_iload_2 40 rfl dX10_hasClause_39 ?_
  refine tm_if_gt_f 43 (by decide) rfl rfl dX10_hasClause_40 ?_
  refine tm_iload_1 44 rfl dX10_hasClause_43 ?_
  refine tm_bipush (43) (by decide) 46 rfl dX10_hasClause_44 ?_
  refine tm_icmp_eq_f 49 (by decide) rfl rfl dX10_hasClause_46 ?_
  refine tm_iload_1 50 rfl dX10_hasClause_49 ?_
  refine tm_bipush (45) (by decide) 52 rfl dX10_hasClause_50 ?_
  refine tm_icmp_eq_f 55 (by decide) rfl rfl dX10_hasClause_52 ?_
  refine tm_iload_1 56 rfl dX10_hasClause_55 ?_
  refine tm_bipush (113) (by decide) 58 rfl dX10_hasClause_56 ?_
  refine tm_icmp_eq_f 61 (by decide) rfl rfl dX10_hasClause_58 ?_
  refine tm_iload_1 62 rfl dX10_hasClause_61 ?_
  refine tm_bipush (103) (by decide) 64 rfl dX10_hasClause_62 ?_
  refine tm_icmp_eq_f 67 (by decide) rfl rfl dX10_hasClause_64 ?_
  refine tm_iload_1 68 rfl dX10_hasClause_67 ?_
  refine tm_bipush (100) (by decide) 70 rfl dX10_hasClause_68 ?_
  refine tm_icmp_eq_t 85 (by decide) rfl dX10_hasClause_70 ?_
  refine tm_iconst (1) rfl 86 rfl dX10_hasClause_85 ?_
  refine tm_goto 90 rfl dX10_hasClause_86 ?_
  refine tm_istore_3 (by decide) rfl 91 rfl dX10_hasClause_90 ?_
  refine tm_iload_3 92 rfl dX10_hasClause_91 ?_
  refine tm_if_ne_t 97 (by decide) rfl dX10_hasClause_92 ?_
  refine tm_aload_0 98 rfl dX10_hasClause_97 ?_
  refine tm_dup rfl 99 rfl dX10_hasClause_98 ?_
  refine tm_geti fl_X10_184 rfl rfl 102 rfl dX10_hasClause_99 ?_
  rw [hT.2.2.2.1]
  refine tm_iconst (1) rfl 103 rfl dX10_hasClause_102 ?_
  refine tm_iadd 104 rfl dX10_hasClause_103 ?_
  rw [nI_1]
  refine tm_puti fl_X10_184 fw_9_10 rfl rfl rfl rfl 107 rfl dX10_hasClause_104 ?_
  refine tm_aload_0 108 rfl dX10_hasClause_107 ?_
  refine tm_iload_1 109 rfl dX10_hasClause_108 ?_
  refine tm_bipush (43) (by decide) 111 rfl dX10_hasClause_109 ?_
  refine tm_icmp_eq_f 114 (by decide) rfl rfl dX10_hasClause_111 ?_
  refine tm_iload_1 115 rfl dX10_hasClause_114 ?_
  refine tm_bipush (45) (by decide) 117 rfl dX10_hasClause_115 ?_
  refine tm_icmp_ne_t 124 (by decide) rfl dX10_hasClause_117 ?_
  refine tm_iload_2 125 rfl dX10_hasClause_124 ?_
  refine tm_callVr_V (ci := 9) (c_X10_takes (m := 0) (hT.pl (p2 := p + 1) (by omega)) (by decide) (by omega)) mv_X10_takes ml_X10_203 rfl rfl rfl rfl rfl (Nat.le_of_ble_eq_true rfl) 128 rfl dX10_hasClause_125 (fun M2 L2 hQ => ?_)
  obtain ⟨hL2, hq⟩ := hQ
  have hL2 := hL2.symm
  subst hL2
  refine tm_aload_0 129 rfl dX10_hasClause_128 ?_
  refine tm_geti fl_X10_194 rfl rfl 132 rfl dX10_hasClause_129 ?_
  rw [hq.1]
  refine tm_iload_2 133 rfl dX10_hasClause_132 ?_
  refine tm_icmp_ge_t 138 (nI_le (a := 0) (Nat.zero_le _) (by have := ltJ_le t s (p + 1) 0; omega)) rfl dX10_hasClause_133 ?_
  refine tm_iload_1 139 rfl dX10_hasClause_138 ?_
  refine tm_bipush (119) (by decide) 141 rfl dX10_hasClause_139 ?_
  refine tm_icmp_eq_f 144 (by decide) rfl rfl dX10_hasClause_141 ?_
  refine tm_iload_1 145 rfl dX10_hasClause_144 ?_
  refine tm_bipush (113) (by decide) 147 rfl dX10_hasClause_145 ?_
  refine tm_icmp_ne_t 157 (by decide) rfl dX10_hasClause_147 ?_
  refine tm_iconst (1) rfl 158 rfl dX10_hasClause_157 ?_
  refine tm_goto 162 rfl dX10_hasClause_158 ?_
  exact tm_zretR (by decide) ⟨rfl, rfl, by rw [hq.2.1, lt0]; rfl, fun _ => ⟨(fun z => absurd z (by decide)), (fun z => absurd z (by decide)), (fun z => absurd z (by decide)), (fun z => absurd z (by decide)), (fun z => absurd z (by decide))⟩, (frD.rf.s1 (by decide) _).tr hq.2.2.2⟩ dX10_hasClause_162

set_option maxRecDepth 100000 in
set_option maxHeartbeats 4000000 in
theorem c_X10_hasClause_111 {g : GC} {d : Nat} {M : MI} {L : ML} {s p : Nat} {t : Nat → Int32} (hT : txM M s t p) (hk : sg t s p = 111) (hp9 : p < 800) : CrI g (d + 3) yX10_hasClause cX10_hasClause 4 .boolean [rf g 54] M L (fun r M' L' => L' = L ∧ hcQ 6 t s p M r M') := by
  refine crI_of (own := RX10) (l := [some (rf g 54), none, none, none]) 3 rfl rfl rfl (Nat.le_of_ble_eq_true rfl) ?_
  refine tm_aload_0 1 rfl dX10_hasClause_0 ?_
  refine tm_callV_I (ci := 9) (c_X10_here hT) mv_X10_here ml_X10_187 rfl rfl rfl rfl rfl (Nat.le_of_ble_eq_true rfl) 4 rfl dX10_hasClause_1 ?_
  rw [hk]
  refine tm_istore_1 (by decide) rfl 5 rfl dX10_hasClause_4 ?_
  refine tm_iload_1 6 rfl dX10_hasClause_5 ?_
  refine tm_bipush (110) (by decide) 8 rfl dX10_hasClause_6 ?_
  refine tm_icmp_eq_f 11 (by decide) rfl rfl dX10_hasClause_8 ?_
  refine tm_iload_1 12 rfl dX10_hasClause_11 ?_
  refine tm_bipush (116) (by decide) 14 rfl dX10_hasClause_12 ?_
  refine tm_icmp_eq_f 17 (by decide) rfl rfl dX10_hasClause_14 ?_
  refine tm_iload_1 18 rfl dX10_hasClause_17 ?_
  refine tm_bipush (119) (by decide) 20 rfl dX10_hasClause_18 ?_
  refine tm_icmp_ne_t 27 (by decide) rfl dX10_hasClause_20 ?_
  refine tm_iload_1 28 rfl dX10_hasClause_27 ?_
  refine tm_bipush (120) (by decide) 30 rfl dX10_hasClause_28 ?_
  refine tm_icmp_ne_t 37 (by decide) rfl dX10_hasClause_30 ?_
  refine tm_iconst (0) rfl 38 rfl dX10_hasClause_37 ?_
  refine tm_istore_2 (by decide) rfl 39 rfl dX10_hasClause_38 ?_
  refine tm_iload_2 40 rfl dX10_hasClause_39 ?_
  refine tm_if_gt_f 43 (by decide) rfl rfl dX10_hasClause_40 ?_
  refine tm_iload_1 44 rfl dX10_hasClause_43 ?_
  refine tm_bipush (43) (by decide) 46 rfl dX10_hasClause_44 ?_
  refine tm_icmp_eq_f 49 (by decide) rfl rfl dX10_hasClause_46 ?_
  refine tm_iload_1 50 rfl dX10_hasClause_49 ?_
  refine tm_bipush (45) (by decide) 52 rfl dX10_hasClause_50 ?_
  refine tm_icmp_eq_f 55 (by decide) rfl rfl dX10_hasClause_52 ?_
  refine tm_iload_1 56 rfl dX10_hasClause_55 ?_
  refine tm_bipush (113) (by decide) 58 rfl dX10_hasClause_56 ?_
  refine tm_icmp_eq_f 61 (by decide) rfl rfl dX10_hasClause_58 ?_
  refine tm_iload_1 62 rfl dX10_hasClause_61 ?_
  refine tm_bipush (103) (by decide) 64 rfl dX10_hasClause_62 ?_
  refine tm_icmp_eq_f 67 (by decide) rfl rfl dX10_hasClause_64 ?_
  refine tm_iload_1 68 rfl dX10_hasClause_67 ?_
  refine tm_bipush (100) (by decide) 70 rfl dX10_hasClause_68 ?_
  refine tm_icmp_eq_f 73 (by decide) rfl rfl dX10_hasClause_70 ?_
  refine tm_iload_1 74 rfl dX10_hasClause_73 ?_
  refine tm_bipush (111) (by decide) 76 rfl dX10_hasClause_74 ?_
  refine tm_icmp_eq_t 85 (by decide) rfl dX10_hasClause_76 ?_
  refine tm_iconst (1) rfl 86 rfl dX10_hasClause_85 ?_
  refine tm_goto 90 rfl dX10_hasClause_86 ?_
  refine tm_istore_3 (by decide) rfl 91 rfl dX10_hasClause_90 ?_
  refine tm_iload_3 92 rfl dX10_hasClause_91 ?_
  refine tm_if_ne_t 97 (by decide) rfl dX10_hasClause_92 ?_
  refine tm_aload_0 98 rfl dX10_hasClause_97 ?_
  refine tm_dup rfl 99 rfl dX10_hasClause_98 ?_
  refine tm_geti fl_X10_184 rfl rfl 102 rfl dX10_hasClause_99 ?_
  rw [hT.2.2.2.1]
  refine tm_iconst (1) rfl 103 rfl dX10_hasClause_102 ?_
  refine tm_iadd 104 rfl dX10_hasClause_103 ?_
  rw [nI_1]
  refine tm_puti fl_X10_184 fw_9_10 rfl rfl rfl rfl 107 rfl dX10_hasClause_104 ?_
  refine tm_aload_0 108 rfl dX10_hasClause_107 ?_
  refine tm_iload_1 109 rfl dX10_hasClause_108 ?_
  refine tm_bipush (43) (by decide) 111 rfl dX10_hasClause_109 ?_
  refine tm_icmp_eq_f 114 (by decide) rfl rfl dX10_hasClause_111 ?_
  refine tm_iload_1 115 rfl dX10_hasClause_114 ?_
  refine tm_bipush (45) (by decide) 117 rfl dX10_hasClause_115 ?_
  refine tm_icmp_ne_t 124 (by decide) rfl dX10_hasClause_117 ?_
  refine tm_iload_2 125 rfl dX10_hasClause_124 ?_
  refine tm_callVr_V (ci := 9) (c_X10_takes (m := 0) (hT.pl (p2 := p + 1) (by omega)) (by decide) (by omega)) mv_X10_takes ml_X10_203 rfl rfl rfl rfl rfl (Nat.le_of_ble_eq_true rfl) 128 rfl dX10_hasClause_125 (fun M2 L2 hQ => ?_)
  obtain ⟨hL2, hq⟩ := hQ
  have hL2 := hL2.symm
  subst hL2
  refine tm_aload_0 129 rfl dX10_hasClause_128 ?_
  refine tm_geti fl_X10_194 rfl rfl 132 rfl dX10_hasClause_129 ?_
  rw [hq.1]
  refine tm_iload_2 133 rfl dX10_hasClause_132 ?_
  refine tm_icmp_ge_t 138 (nI_le (a := 0) (Nat.zero_le _) (by have := ltJ_le t s (p + 1) 0; omega)) rfl dX10_hasClause_133 ?_
  refine tm_iload_1 139 rfl dX10_hasClause_138 ?_
  refine tm_bipush (119) (by decide) 141 rfl dX10_hasClause_139 ?_
  refine tm_icmp_eq_f 144 (by decide) rfl rfl dX10_hasClause_141 ?_
  refine tm_iload_1 145 rfl dX10_hasClause_144 ?_
  refine tm_bipush (113) (by decide) 147 rfl dX10_hasClause_145 ?_
  refine tm_icmp_ne_t 157 (by decide) rfl dX10_hasClause_147 ?_
  refine tm_iconst (1) rfl 158 rfl dX10_hasClause_157 ?_
  refine tm_goto 162 rfl dX10_hasClause_158 ?_
  exact tm_zretR (by decide) ⟨rfl, rfl, by rw [hq.2.1, lt0]; rfl, fun _ => ⟨(fun z => absurd z (by decide)), (fun z => absurd z (by decide)), (fun z => absurd z (by decide)), (fun z => absurd z (by decide)), (fun z => absurd z (by decide))⟩, (frD.rf.s1 (by decide) _).tr hq.2.2.2⟩ dX10_hasClause_162

set_option maxRecDepth 100000 in
set_option maxHeartbeats 4000000 in
theorem c_X10_hasClause_107 {g : GC} {d : Nat} {M : MI} {L : ML} {s p : Nat} {t : Nat → Int32} (hT : txM M s t p) (hk : sg t s p = 107) (hp9 : p < 800) : CrI g (d + 3) yX10_hasClause cX10_hasClause 4 .boolean [rf g 54] M L (fun r M' L' => L' = L ∧ hcQ 6 t s p M r M') := by
  refine crI_of (own := RX10) (l := [some (rf g 54), none, none, none]) 3 rfl rfl rfl (Nat.le_of_ble_eq_true rfl) ?_
  refine tm_aload_0 1 rfl dX10_hasClause_0 ?_
  refine tm_callV_I (ci := 9) (c_X10_here hT) mv_X10_here ml_X10_187 rfl rfl rfl rfl rfl (Nat.le_of_ble_eq_true rfl) 4 rfl dX10_hasClause_1 ?_
  rw [hk]
  refine tm_istore_1 (by decide) rfl 5 rfl dX10_hasClause_4 ?_
  refine tm_iload_1 6 rfl dX10_hasClause_5 ?_
  refine tm_bipush (110) (by decide) 8 rfl dX10_hasClause_6 ?_
  refine tm_icmp_eq_f 11 (by decide) rfl rfl dX10_hasClause_8 ?_
  refine tm_iload_1 12 rfl dX10_hasClause_11 ?_
  refine tm_bipush (116) (by decide) 14 rfl dX10_hasClause_12 ?_
  refine tm_icmp_eq_f 17 (by decide) rfl rfl dX10_hasClause_14 ?_
  refine tm_iload_1 18 rfl dX10_hasClause_17 ?_
  refine tm_bipush (119) (by decide) 20 rfl dX10_hasClause_18 ?_
  refine tm_icmp_ne_t 27 (by decide) rfl dX10_hasClause_20 ?_
  refine tm_iload_1 28 rfl dX10_hasClause_27 ?_
  refine tm_bipush (120) (by decide) 30 rfl dX10_hasClause_28 ?_
  refine tm_icmp_ne_t 37 (by decide) rfl dX10_hasClause_30 ?_
  refine tm_iconst (0) rfl 38 rfl dX10_hasClause_37 ?_
  refine tm_istore_2 (by decide) rfl 39 rfl dX10_hasClause_38 ?_
  refine tm_iload_2 40 rfl dX10_hasClause_39 ?_
  refine tm_if_gt_f 43 (by decide) rfl rfl dX10_hasClause_40 ?_
  refine tm_iload_1 44 rfl dX10_hasClause_43 ?_
  refine tm_bipush (43) (by decide) 46 rfl dX10_hasClause_44 ?_
  refine tm_icmp_eq_f 49 (by decide) rfl rfl dX10_hasClause_46 ?_
  refine tm_iload_1 50 rfl dX10_hasClause_49 ?_
  refine tm_bipush (45) (by decide) 52 rfl dX10_hasClause_50 ?_
  refine tm_icmp_eq_f 55 (by decide) rfl rfl dX10_hasClause_52 ?_
  refine tm_iload_1 56 rfl dX10_hasClause_55 ?_
  refine tm_bipush (113) (by decide) 58 rfl dX10_hasClause_56 ?_
  refine tm_icmp_eq_f 61 (by decide) rfl rfl dX10_hasClause_58 ?_
  refine tm_iload_1 62 rfl dX10_hasClause_61 ?_
  refine tm_bipush (103) (by decide) 64 rfl dX10_hasClause_62 ?_
  refine tm_icmp_eq_f 67 (by decide) rfl rfl dX10_hasClause_64 ?_
  refine tm_iload_1 68 rfl dX10_hasClause_67 ?_
  refine tm_bipush (100) (by decide) 70 rfl dX10_hasClause_68 ?_
  refine tm_icmp_eq_f 73 (by decide) rfl rfl dX10_hasClause_70 ?_
  refine tm_iload_1 74 rfl dX10_hasClause_73 ?_
  refine tm_bipush (111) (by decide) 76 rfl dX10_hasClause_74 ?_
  refine tm_icmp_eq_f 79 (by decide) rfl rfl dX10_hasClause_76 ?_
  refine tm_iload_1 80 rfl dX10_hasClause_79 ?_
  refine tm_bipush (107) (by decide) 82 rfl dX10_hasClause_80 ?_
  refine tm_icmp_ne_f 85 (by decide) rfl rfl dX10_hasClause_82 ?_
  refine tm_iconst (1) rfl 86 rfl dX10_hasClause_85 ?_
  refine tm_goto 90 rfl dX10_hasClause_86 ?_
  refine tm_istore_3 (by decide) rfl 91 rfl dX10_hasClause_90 ?_
  refine tm_iload_3 92 rfl dX10_hasClause_91 ?_
  refine tm_if_ne_t 97 (by decide) rfl dX10_hasClause_92 ?_
  refine tm_aload_0 98 rfl dX10_hasClause_97 ?_
  refine tm_dup rfl 99 rfl dX10_hasClause_98 ?_
  refine tm_geti fl_X10_184 rfl rfl 102 rfl dX10_hasClause_99 ?_
  rw [hT.2.2.2.1]
  refine tm_iconst (1) rfl 103 rfl dX10_hasClause_102 ?_
  refine tm_iadd 104 rfl dX10_hasClause_103 ?_
  rw [nI_1]
  refine tm_puti fl_X10_184 fw_9_10 rfl rfl rfl rfl 107 rfl dX10_hasClause_104 ?_
  refine tm_aload_0 108 rfl dX10_hasClause_107 ?_
  refine tm_iload_1 109 rfl dX10_hasClause_108 ?_
  refine tm_bipush (43) (by decide) 111 rfl dX10_hasClause_109 ?_
  refine tm_icmp_eq_f 114 (by decide) rfl rfl dX10_hasClause_111 ?_
  refine tm_iload_1 115 rfl dX10_hasClause_114 ?_
  refine tm_bipush (45) (by decide) 117 rfl dX10_hasClause_115 ?_
  refine tm_icmp_ne_t 124 (by decide) rfl dX10_hasClause_117 ?_
  refine tm_iload_2 125 rfl dX10_hasClause_124 ?_
  refine tm_callVr_V (ci := 9) (c_X10_takes (m := 0) (hT.pl (p2 := p + 1) (by omega)) (by decide) (by omega)) mv_X10_takes ml_X10_203 rfl rfl rfl rfl rfl (Nat.le_of_ble_eq_true rfl) 128 rfl dX10_hasClause_125 (fun M2 L2 hQ => ?_)
  obtain ⟨hL2, hq⟩ := hQ
  have hL2 := hL2.symm
  subst hL2
  refine tm_aload_0 129 rfl dX10_hasClause_128 ?_
  refine tm_geti fl_X10_194 rfl rfl 132 rfl dX10_hasClause_129 ?_
  rw [hq.1]
  refine tm_iload_2 133 rfl dX10_hasClause_132 ?_
  refine tm_icmp_ge_t 138 (nI_le (a := 0) (Nat.zero_le _) (by have := ltJ_le t s (p + 1) 0; omega)) rfl dX10_hasClause_133 ?_
  refine tm_iload_1 139 rfl dX10_hasClause_138 ?_
  refine tm_bipush (119) (by decide) 141 rfl dX10_hasClause_139 ?_
  refine tm_icmp_eq_f 144 (by decide) rfl rfl dX10_hasClause_141 ?_
  refine tm_iload_1 145 rfl dX10_hasClause_144 ?_
  refine tm_bipush (113) (by decide) 147 rfl dX10_hasClause_145 ?_
  refine tm_icmp_ne_t 157 (by decide) rfl dX10_hasClause_147 ?_
  refine tm_iconst (1) rfl 158 rfl dX10_hasClause_157 ?_
  refine tm_goto 162 rfl dX10_hasClause_158 ?_
  exact tm_zretR (by decide) ⟨rfl, rfl, by rw [hq.2.1, lt0]; rfl, fun _ => ⟨(fun z => absurd z (by decide)), (fun z => absurd z (by decide)), (fun z => absurd z (by decide)), (fun z => absurd z (by decide)), (fun z => absurd z (by decide))⟩, (frD.rf.s1 (by decide) _).tr hq.2.2.2⟩ dX10_hasClause_162

set_option maxRecDepth 100000 in
set_option maxHeartbeats 4000000 in
theorem c_X10_hasClause_no {g : GC} {d : Nat} {M : MI} {L : ML} {s p : Nat} {t : Nat → Int32} (hT : txM M s t p) (hk : kd (sg t s p) = 0) : CrI g (d + 3) yX10_hasClause cX10_hasClause 4 .boolean [rf g 54] M L (fun r M' L' => L' = L ∧ hcQ 0 t s p M r M') := by
  obtain ⟨n1, n2, n3, n4, n5, n6, n7, n8, n9, n10, n11⟩ := kd_0 hk
  refine crI_of (own := RX10) (l := [some (rf g 54), none, none, none]) 3 rfl rfl rfl (Nat.le_of_ble_eq_true rfl) ?_
  refine tm_aload_0 1 rfl dX10_hasClause_0 ?_
  refine tm_callV_I (ci := 9) (c_X10_here hT) mv_X10_here ml_X10_187 rfl rfl rfl rfl rfl (Nat.le_of_ble_eq_true rfl) 4 rfl dX10_hasClause_1 ?_
  refine tm_istore_1 (by decide) rfl 5 rfl dX10_hasClause_4 ?_
  refine tm_iload_1 6 rfl dX10_hasClause_5 ?_
  refine tm_bipush (110) (by decide) 8 rfl dX10_hasClause_6 ?_
  refine tm_icmp_eq_f 11 (n1) rfl rfl dX10_hasClause_8 ?_
  refine tm_iload_1 12 rfl dX10_hasClause_11 ?_
  refine tm_bipush (116) (by decide) 14 rfl dX10_hasClause_12 ?_
  refine tm_icmp_eq_f 17 (n2) rfl rfl dX10_hasClause_14 ?_
  refine tm_iload_1 18 rfl dX10_hasClause_17 ?_
  refine tm_bipush (119) (by decide) 20 rfl dX10_hasClause_18 ?_
  refine tm_icmp_ne_t 27 (n5) rfl dX10_hasClause_20 ?_
  refine tm_iload_1 28 rfl dX10_hasClause_27 ?_
  refine tm_bipush (120) (by decide) 30 rfl dX10_hasClause_28 ?_
  refine tm_icmp_ne_t 37 (n7) rfl dX10_hasClause_30 ?_
  refine tm_iconst (0) rfl 38 rfl dX10_hasClause_37 ?_
  refine tm_istore_2 (by decide) rfl 39 rfl dX10_hasClause_38 ?_
  refine tm_iload_2 40 rfl dX10_hasClause_39 ?_
  refine tm_if_gt_f 43 (by decide) rfl rfl dX10_hasClause_40 ?_
  refine tm_iload_1 44 rfl dX10_hasClause_43 ?_
  refine tm_bipush (43) (by decide) 46 rfl dX10_hasClause_44 ?_
  refine tm_icmp_eq_f 49 (n3) rfl rfl dX10_hasClause_46 ?_
  refine tm_iload_1 50 rfl dX10_hasClause_49 ?_
  refine tm_bipush (45) (by decide) 52 rfl dX10_hasClause_50 ?_
  refine tm_icmp_eq_f 55 (n4) rfl rfl dX10_hasClause_52 ?_
  refine tm_iload_1 56 rfl dX10_hasClause_55 ?_
  refine tm_bipush (113) (by decide) 58 rfl dX10_hasClause_56 ?_
  refine tm_icmp_eq_f 61 (n6) rfl rfl dX10_hasClause_58 ?_
  refine tm_iload_1 62 rfl dX10_hasClause_61 ?_
  refine tm_bipush (103) (by decide) 64 rfl dX10_hasClause_62 ?_
  refine tm_icmp_eq_f 67 (n8) rfl rfl dX10_hasClause_64 ?_
  refine tm_iload_1 68 rfl dX10_hasClause_67 ?_
  refine tm_bipush (100) (by decide) 70 rfl dX10_hasClause_68 ?_
  refine tm_icmp_eq_f 73 (n9) rfl rfl dX10_hasClause_70 ?_
  refine tm_iload_1 74 rfl dX10_hasClause_73 ?_
  refine tm_bipush (111) (by decide) 76 rfl dX10_hasClause_74 ?_
  refine tm_icmp_eq_f 79 (n10) rfl rfl dX10_hasClause_76 ?_
  refine tm_iload_1 80 rfl dX10_hasClause_79 ?_
  refine tm_bipush (107) (by decide) 82 rfl dX10_hasClause_80 ?_
  refine tm_icmp_ne_t 89 (n11) rfl dX10_hasClause_82 ?_
  refine tm_iconst (0) rfl 90 rfl dX10_hasClause_89 ?_
  refine tm_istore_3 (by decide) rfl 91 rfl dX10_hasClause_90 ?_
  refine tm_iload_3 92 rfl dX10_hasClause_91 ?_
  refine tm_if_ne_f 95 (by decide) rfl rfl dX10_hasClause_92 ?_
  refine tm_iconst (0) rfl 96 rfl dX10_hasClause_95 ?_
  exact tm_zretR (by decide) ⟨rfl, rfl, hT.2.2.2.1, (fun z => by cases z), frD.rf⟩ dX10_hasClause_96

theorem c_X10_hasClause {g : GC} {d : Nat} {M : MI} {L : ML} {s p : Nat} {t : Nat → Int32} (hT : txM M s t p) (hp9 : p < 800) : CrI g (d + 3) yX10_hasClause cX10_hasClause 4 .boolean [rf g 54] M L (fun r M' L' => L' = L ∧ hcQ (kd (sg t s p)) t s p M r M') := by
  by_cases h : kd (sg t s p) = 0
  · rw [h]; exact c_X10_hasClause_no hT h
  · rcases kd_n h with q | q | q | q | q | q | q | q | q | q | q
    · rw [show kd (sg t s p) = 1 by rw [q]; decide]; exact c_X10_hasClause_110 hT q hp9
    · rw [show kd (sg t s p) = 1 by rw [q]; decide]; exact c_X10_hasClause_116 hT q hp9
    · rw [show kd (sg t s p) = 2 by rw [q]; decide]; exact c_X10_hasClause_43 hT q hp9
    · rw [show kd (sg t s p) = 2 by rw [q]; decide]; exact c_X10_hasClause_45 hT q hp9
    · rw [show kd (sg t s p) = 3 by rw [q]; decide]; exact c_X10_hasClause_119 hT q hp9
    · rw [show kd (sg t s p) = 4 by rw [q]; decide]; exact c_X10_hasClause_113 hT q hp9
    · rw [show kd (sg t s p) = 5 by rw [q]; decide]; exact c_X10_hasClause_120 hT q hp9
    · rw [show kd (sg t s p) = 6 by rw [q]; decide]; exact c_X10_hasClause_103 hT q hp9
    · rw [show kd (sg t s p) = 6 by rw [q]; decide]; exact c_X10_hasClause_100 hT q hp9
    · rw [show kd (sg t s p) = 6 by rw [q]; decide]; exact c_X10_hasClause_111 hT q hp9
    · rw [show kd (sg t s p) = 6 by rw [q]; decide]; exact c_X10_hasClause_107 hT q hp9
theorem ge_y {x : Int32} (h : ¬ x < 0) : (1 : Int32) = bI (decide (0 ≤ x)) := by rw [decide_eq_true (fa_of_nlt h)]; rfl
theorem ge_n {x : Int32} (h : x < 0) : (0 : Int32) = bI (decide (0 ≤ x)) := by rw [decide_eq_false (fa_of_lt h).2.1]; rfl
set_option maxRecDepth 100000 in
set_option maxHeartbeats 4000000 in
theorem c_X10_isDone_110 {g : GC} {d : Nat} {M : MI} {L : ML} {σ : AS} (hM : hasM M σ) (hσ : okS σ) {f z : Int32} (h0 : M 62 0 = f) : CfI g (d + 3) yX10_isDone cX10_isDone 4 .boolean [rf g 54, .int (110)] M L (bI (decide (0 ≤ (opCl σ 110 f z).1))) (putM M (opCl σ 110 f z).2) (L) := by
  refine cfI_of (own := RX10) (l := [some (rf g 54), some (.int (110)), none, none]) 2 rfl rfl rfl (Nat.le_of_ble_eq_true rfl) ?_
  refine tm_iload_1 1 rfl dX10_isDone_0 ?_
  refine tm_look (off := 91) 92 (by decide +kernel) (by decide +kernel) rfl dX10_isDone_1 ?_
  refine tm_aload_0 93 rfl dX10_isDone_92 ?_
  refine tm_aload_0 94 rfl dX10_isDone_93 ?_
  refine tm_getr fl_X10_34 rfl rfl 97 rfl dX10_isDone_94 ?_
  refine tm_iconst (0) rfl 98 rfl dX10_isDone_97 ?_
  refine tm_ald rfl (ix := 0) ⟨by decide, by decide, by decide⟩ 99 rfl dX10_isDone_98 ?_
  rw [h0]
  refine tm_callV_I (ci := 9) (c_X10_voters hM hσ) mv_X10_voters ml_X10_209 rfl rfl rfl rfl rfl (Nat.le_of_ble_eq_true rfl) 102 rfl dX10_isDone_99 ?_
  refine tm_if_lt 109 105 rfl rfl dX10_isDone_102 (fun h102 => ?_) (fun h102 => ?_)
  · refine tm_iconst (0) rfl 110 rfl dX10_isDone_109 ?_
    exact tm_zret (by decide) (by rw [cl_110]; first | exact ge_y h102 | exact ge_n h102) (by rw [cl_110]) rfl dX10_isDone_110
  · refine tm_iconst (1) rfl 106 rfl dX10_isDone_105 ?_
    refine tm_goto 110 rfl dX10_isDone_106 ?_
    exact tm_zret (by decide) (by rw [cl_110]; first | exact ge_y h102 | exact ge_n h102) (by rw [cl_110]) rfl dX10_isDone_110

set_option maxRecDepth 100000 in
set_option maxHeartbeats 4000000 in
theorem c_X10_isDone_119 {g : GC} {d : Nat} {M : MI} {L : ML} {σ : AS} (hM : hasM M σ) (hσ : okS σ) {f z : Int32} (h0 : M 62 0 = f) (h13 : M 54 13 = z) : CfI g (d + 3) yX10_isDone cX10_isDone 4 .boolean [rf g 54, .int (119)] M L (bI (decide (0 ≤ (opCl σ 119 f z).1))) (putM M (opCl σ 119 f z).2) (L) := by
  refine cfI_of (own := RX10) (l := [some (rf g 54), some (.int (119)), none, none]) 2 rfl rfl rfl (Nat.le_of_ble_eq_true rfl) ?_
  refine tm_iload_1 1 rfl dX10_isDone_0 ?_
  refine tm_look (off := 164) 165 (by decide +kernel) (by decide +kernel) rfl dX10_isDone_1 ?_
  refine tm_aload_0 166 rfl dX10_isDone_165 ?_
  refine tm_aload_0 167 rfl dX10_isDone_166 ?_
  refine tm_getr fl_X10_34 rfl rfl 170 rfl dX10_isDone_167 ?_
  refine tm_iconst (0) rfl 171 rfl dX10_isDone_170 ?_
  refine tm_ald rfl (ix := 0) ⟨by decide, by decide, by decide⟩ 172 rfl dX10_isDone_171 ?_
  rw [h0]
  refine tm_aload_0 173 rfl dX10_isDone_172 ?_
  refine tm_geti fl_X10_200 rfl rfl 176 rfl dX10_isDone_173 ?_
  rw [h13]
  refine tm_callV_I (ci := 9) (c_X10_weight hM hσ) mv_X10_weight ml_X10_215 rfl rfl rfl rfl rfl (Nat.le_of_ble_eq_true rfl) 179 rfl dX10_isDone_176 ?_
  refine tm_if_lt 186 182 rfl rfl dX10_isDone_179 (fun h179 => ?_) (fun h179 => ?_)
  · refine tm_iconst (0) rfl 187 rfl dX10_isDone_186 ?_
    exact tm_zret (by decide) (by rw [cl_119]; first | exact ge_y h179 | exact ge_n h179) (by rw [cl_119]) rfl dX10_isDone_187
  · refine tm_iconst (1) rfl 183 rfl dX10_isDone_182 ?_
    refine tm_goto 187 rfl dX10_isDone_183 ?_
    exact tm_zret (by decide) (by rw [cl_119]; first | exact ge_y h179 | exact ge_n h179) (by rw [cl_119]) rfl dX10_isDone_187

set_option maxRecDepth 100000 in
set_option maxHeartbeats 4000000 in
theorem c_X10_isDone_113 {g : GC} {d : Nat} {M : MI} {L : ML} {σ : AS} (hM : hasM M σ) (hσ : okS σ) {f z : Int32} (h13 : M 54 13 = f) : CfI g (d + 3) yX10_isDone cX10_isDone 4 .boolean [rf g 54, .int (113)] M L (bI (decide (0 ≤ (opCl σ 113 f z).1))) (putM M (opCl σ 113 f z).2) (L) := by
  refine cfI_of (own := RX10) (l := [some (rf g 54), some (.int (113)), none, none]) 2 rfl rfl rfl (Nat.le_of_ble_eq_true rfl) ?_
  refine tm_iload_1 1 rfl dX10_isDone_0 ?_
  refine tm_look (off := 187) 188 (by decide +kernel) (by decide +kernel) rfl dX10_isDone_1 ?_
  refine tm_aload_0 189 rfl dX10_isDone_188 ?_
  refine tm_aload_0 190 rfl dX10_isDone_189 ?_
  refine tm_geti fl_X10_200 rfl rfl 193 rfl dX10_isDone_190 ?_
  rw [h13]
  refine tm_callV_I (ci := 9) (c_X10_quota hM hσ) mv_X10_quota ml_X10_218 rfl rfl rfl rfl rfl (Nat.le_of_ble_eq_true rfl) 196 rfl dX10_isDone_193 ?_
  refine tm_if_lt 203 199 rfl rfl dX10_isDone_196 (fun h196 => ?_) (fun h196 => ?_)
  · refine tm_iconst (0) rfl 204 rfl dX10_isDone_203 ?_
    exact tm_zret (by decide) (by rw [cl_113]; first | exact ge_y h196 | exact ge_n h196) (by rw [cl_113]) rfl dX10_isDone_204
  · refine tm_iconst (1) rfl 200 rfl dX10_isDone_199 ?_
    refine tm_goto 204 rfl dX10_isDone_200 ?_
    exact tm_zret (by decide) (by rw [cl_113]; first | exact ge_y h196 | exact ge_n h196) (by rw [cl_113]) rfl dX10_isDone_204

set_option maxRecDepth 100000 in
set_option maxHeartbeats 4000000 in
theorem c_X10_isDone_103 {g : GC} {d : Nat} {M : MI} {L : ML} {σ : AS} (hM : hasM M σ) (hσ : okS σ) {f z : Int32}  : CfI g (d + 3) yX10_isDone cX10_isDone 4 .boolean [rf g 54, .int (103)] M L (bI (decide (0 ≤ (opCl σ 103 f z).1))) (putM M (opCl σ 103 f z).2) (L) := by
  refine cfI_of (own := RX10) (l := [some (rf g 54), some (.int (103)), none, none]) 2 rfl rfl rfl (Nat.le_of_ble_eq_true rfl) ?_
  refine tm_iload_1 1 rfl dX10_isDone_0 ?_
  refine tm_look (off := 204) 205 (by decide +kernel) (by decide +kernel) rfl dX10_isDone_1 ?_
  refine tm_aload_0 206 rfl dX10_isDone_205 ?_
  refine tm_callV_I (ci := 9) (c_X10_weigh hM hσ) mv_X10_weigh ml_X10_221 rfl rfl rfl rfl rfl (Nat.le_of_ble_eq_true rfl) 209 rfl dX10_isDone_206 ?_
  refine tm_if_lt 216 212 rfl rfl dX10_isDone_209 (fun h209 => ?_) (fun h209 => ?_)
  · refine tm_iconst (0) rfl 217 rfl dX10_isDone_216 ?_
    exact tm_zret (by decide) (by rw [cl_103]; first | exact ge_y h209 | exact ge_n h209) (by rw [cl_103]) rfl dX10_isDone_217
  · refine tm_iconst (1) rfl 213 rfl dX10_isDone_212 ?_
    refine tm_goto 217 rfl dX10_isDone_213 ?_
    exact tm_zret (by decide) (by rw [cl_103]; first | exact ge_y h209 | exact ge_n h209) (by rw [cl_103]) rfl dX10_isDone_217

set_option maxRecDepth 100000 in
set_option maxHeartbeats 4000000 in
theorem c_X10_isDone_100 {g : GC} {d : Nat} {M : MI} {L : ML} {σ : AS} (hM : hasM M σ) (hσ : okS σ) {f z : Int32}  : CfI g (d + 3) yX10_isDone cX10_isDone 4 .boolean [rf g 54, .int (100)] M L (bI (decide (0 ≤ (opCl σ 100 f z).1))) (putM M (opCl σ 100 f z).2) (L) := by
  refine cfI_of (own := RX10) (l := [some (rf g 54), some (.int (100)), none, none]) 2 rfl rfl rfl (Nat.le_of_ble_eq_true rfl) ?_
  refine tm_iload_1 1 rfl dX10_isDone_0 ?_
  refine tm_look (off := 217) 218 (by decide +kernel) (by decide +kernel) rfl dX10_isDone_1 ?_
  refine tm_aload_0 219 rfl dX10_isDone_218 ?_
  refine tm_iconst (0) rfl 220 rfl dX10_isDone_219 ?_
  refine tm_callV_I (ci := 9) (c_X10_becomes0 hM hσ) mv_X10_becomes ml_X10_224 rfl rfl rfl rfl rfl (Nat.le_of_ble_eq_true rfl) 223 rfl dX10_isDone_220 ?_
  refine tm_if_lt 230 226 rfl rfl dX10_isDone_223 (fun h223 => ?_) (fun h223 => ?_)
  · refine tm_iconst (0) rfl 231 rfl dX10_isDone_230 ?_
    exact tm_zret (by decide) (by rw [cl_100]; first | exact ge_y h223 | exact ge_n h223) (by rw [cl_100]) rfl dX10_isDone_231
  · refine tm_iconst (1) rfl 227 rfl dX10_isDone_226 ?_
    refine tm_goto 231 rfl dX10_isDone_227 ?_
    exact tm_zret (by decide) (by rw [cl_100]; first | exact ge_y h223 | exact ge_n h223) (by rw [cl_100]) rfl dX10_isDone_231

set_option maxRecDepth 100000 in
set_option maxHeartbeats 4000000 in
theorem c_X10_isDone_111 {g : GC} {d : Nat} {M : MI} {L : ML} {σ : AS} (hM : hasM M σ) (hσ : okS σ) {f z : Int32}  : CfI g (d + 3) yX10_isDone cX10_isDone 4 .boolean [rf g 54, .int (111)] M L (bI (decide (0 ≤ (opCl σ 111 f z).1))) (putM M (opCl σ 111 f z).2) (L) := by
  refine cfI_of (own := RX10) (l := [some (rf g 54), some (.int (111)), none, none]) 2 rfl rfl rfl (Nat.le_of_ble_eq_true rfl) ?_
  refine tm_iload_1 1 rfl dX10_isDone_0 ?_
  refine tm_look (off := 231) 232 (by decide +kernel) (by decide +kernel) rfl dX10_isDone_1 ?_
  refine tm_aload_0 233 rfl dX10_isDone_232 ?_
  refine tm_iconst (1) rfl 234 rfl dX10_isDone_233 ?_
  refine tm_callV_I (ci := 9) (c_X10_becomes1 hM hσ) mv_X10_becomes ml_X10_224 rfl rfl rfl rfl rfl (Nat.le_of_ble_eq_true rfl) 237 rfl dX10_isDone_234 ?_
  refine tm_if_lt 244 240 rfl rfl dX10_isDone_237 (fun h237 => ?_) (fun h237 => ?_)
  · refine tm_iconst (0) rfl 245 rfl dX10_isDone_244 ?_
    exact tm_zret (by decide) (by rw [cl_111]; first | exact ge_y h237 | exact ge_n h237) (by rw [cl_111]) rfl dX10_isDone_245
  · refine tm_iconst (1) rfl 241 rfl dX10_isDone_240 ?_
    refine tm_goto 245 rfl dX10_isDone_241 ?_
    exact tm_zret (by decide) (by rw [cl_111]; first | exact ge_y h237 | exact ge_n h237) (by rw [cl_111]) rfl dX10_isDone_245

set_option maxRecDepth 100000 in
set_option maxHeartbeats 4000000 in
theorem c_X10_isDone_116 {g : GC} {d : Nat} {M : MI} {L : ML} {σ : AS} (hM : hasM M σ) (hσ : okS σ) {f z : Int32} (h0 : M 62 0 = f) : CfI g (d + 3) yX10_isDone cX10_isDone 4 .boolean [rf g 54, .int (116)] M L (bI (decide (0 ≤ (opCl σ 116 f z).1))) (putM M (opCl σ 116 f z).2) (L) := by
  refine cfI_of (own := RX10) (l := [some (rf g 54), some (.int (116)), none, none]) 2 rfl rfl rfl (Nat.le_of_ble_eq_true rfl) ?_
  refine tm_iload_1 1 rfl dX10_isDone_0 ?_
  refine tm_look (off := 245) 246 (by decide +kernel) (by decide +kernel) rfl dX10_isDone_1 ?_
  refine tm_aload_0 247 rfl dX10_isDone_246 ?_
  refine tm_aload_0 248 rfl dX10_isDone_247 ?_
  refine tm_getr fl_X10_34 rfl rfl 251 rfl dX10_isDone_248 ?_
  refine tm_iconst (0) rfl 252 rfl dX10_isDone_251 ?_
  refine tm_ald rfl (ix := 0) ⟨by decide, by decide, by decide⟩ 253 rfl dX10_isDone_252 ?_
  rw [h0]
  refine tm_callV_I (ci := 9) (c_X10_turn hM hσ) mv_X10_turn ml_X10_227 rfl rfl rfl rfl rfl (Nat.le_of_ble_eq_true rfl) 256 rfl dX10_isDone_253 ?_
  refine tm_if_lt 263 259 rfl rfl dX10_isDone_256 (fun h256 => ?_) (fun h256 => ?_)
  · refine tm_iconst (0) rfl 264 rfl dX10_isDone_263 ?_
    exact tm_zret (by decide) (by rw [cl_116]; first | exact ge_y h256 | exact ge_n h256) (by rw [cl_116]) rfl dX10_isDone_264
  · refine tm_iconst (1) rfl 260 rfl dX10_isDone_259 ?_
    refine tm_goto 264 rfl dX10_isDone_260 ?_
    exact tm_zret (by decide) (by rw [cl_116]; first | exact ge_y h256 | exact ge_n h256) (by rw [cl_116]) rfl dX10_isDone_264

set_option maxRecDepth 100000 in
set_option maxHeartbeats 4000000 in
theorem c_X10_isDone_120 {g : GC} {d : Nat} {M : MI} {L : ML} {σ : AS} (hM : hasM M σ) (hσ : okS σ) {f z : Int32} (h0 : M 62 0 = f) (h1 : M 62 1 = z) : CfI g (d + 3) yX10_isDone cX10_isDone 4 .boolean [rf g 54, .int (120)] M L (bI (decide (0 ≤ (opCl σ 120 f z).1))) (putM M (opCl σ 120 f z).2) (L) := by
  refine cfI_of (own := RX10) (l := [some (rf g 54), some (.int (120)), none, none]) 2 rfl rfl rfl (Nat.le_of_ble_eq_true rfl) ?_
  refine tm_iload_1 1 rfl dX10_isDone_0 ?_
  refine tm_look (off := 264) 265 (by decide +kernel) (by decide +kernel) rfl dX10_isDone_1 ?_
  refine tm_aload_0 266 rfl dX10_isDone_265 ?_
  refine tm_aload_0 267 rfl dX10_isDone_266 ?_
  refine tm_getr fl_X10_34 rfl rfl 270 rfl dX10_isDone_267 ?_
  refine tm_iconst (0) rfl 271 rfl dX10_isDone_270 ?_
  refine tm_ald rfl (ix := 0) ⟨by decide, by decide, by decide⟩ 272 rfl dX10_isDone_271 ?_
  rw [h0]
  refine tm_aload_0 273 rfl dX10_isDone_272 ?_
  refine tm_getr fl_X10_34 rfl rfl 276 rfl dX10_isDone_273 ?_
  refine tm_iconst (1) rfl 277 rfl dX10_isDone_276 ?_
  refine tm_ald rfl (ix := 1) ⟨by decide, by decide, by decide⟩ 278 rfl dX10_isDone_277 ?_
  rw [h1]
  refine tm_callV_I (ci := 9) (c_X10_exchange hM hσ) mv_X10_exchange ml_X10_230 rfl rfl rfl rfl rfl (Nat.le_of_ble_eq_true rfl) 281 rfl dX10_isDone_278 ?_
  refine tm_if_lt 288 284 rfl rfl dX10_isDone_281 (fun h281 => ?_) (fun h281 => ?_)
  · refine tm_iconst (0) rfl 289 rfl dX10_isDone_288 ?_
    exact tm_zret (by decide) (by rw [cl_120]; first | exact ge_y h281 | exact ge_n h281) (by rw [cl_120]) rfl dX10_isDone_289
  · refine tm_iconst (1) rfl 285 rfl dX10_isDone_284 ?_
    refine tm_goto 289 rfl dX10_isDone_285 ?_
    exact tm_zret (by decide) (by rw [cl_120]; first | exact ge_y h281 | exact ge_n h281) (by rw [cl_120]) rfl dX10_isDone_289

set_option maxRecDepth 100000 in
set_option maxHeartbeats 4000000 in
theorem c_X10_isDone_107 {g : GC} {d : Nat} {M : MI} {L : ML} {σ : AS} (hM : hasM M σ) (hσ : okS σ) {f z : Int32}  : CfI g (d + 3) yX10_isDone cX10_isDone 4 .boolean [rf g 54, .int (107)] M L (bI (decide (0 ≤ (opCl σ 107 f z).1))) (putM M (opCl σ 107 f z).2) (L) := by
  refine cfI_of (own := RX10) (l := [some (rf g 54), some (.int (107)), none, none]) 2 rfl rfl rfl (Nat.le_of_ble_eq_true rfl) ?_
  refine tm_iload_1 1 rfl dX10_isDone_0 ?_
  refine tm_look (off := 289) 290 (by decide +kernel) (by decide +kernel) rfl dX10_isDone_1 ?_
  refine tm_aload_0 291 rfl dX10_isDone_290 ?_
  refine tm_callV_I (ci := 9) (c_X10_keep hM hσ) mv_X10_keep ml_X10_233 rfl rfl rfl rfl rfl (Nat.le_of_ble_eq_true rfl) 294 rfl dX10_isDone_291 ?_
  refine tm_if_lt 301 297 rfl rfl dX10_isDone_294 (fun h294 => ?_) (fun h294 => ?_)
  · refine tm_iconst (0) rfl 302 rfl dX10_isDone_301 ?_
    exact tm_zret (by decide) (by rw [cl_107]; first | exact ge_y h294 | exact ge_n h294) (by rw [cl_107]) rfl dX10_isDone_302
  · refine tm_iconst (1) rfl 298 rfl dX10_isDone_297 ?_
    refine tm_goto 302 rfl dX10_isDone_298 ?_
    exact tm_zret (by decide) (by rw [cl_107]; first | exact ge_y h294 | exact ge_n h294) (by rw [cl_107]) rfl dX10_isDone_302

set_option maxRecDepth 100000 in
set_option maxHeartbeats 4000000 in
theorem c_X10_isDone_43 {g : GC} {d : Nat} {M : MI} {L : ML} {σ : AS} (hM : hasM M σ) (hσ : okS σ) {t : Nat → Int32} {s p J : Nat} {z : Int32} (hJ : J ≤ 4) (h12 : M 54 12 = nI J) (hd : ∀ j, j < J → M 62 j = sg t s (p + j) - 48) : CfI g (d + 3) yX10_isDone cX10_isDone 4 .boolean [rf g 54, .int (43)] M L (bI (decide (0 ≤ (opCl σ 43 (ltV t s p J) z).1))) (putM M (opCl σ 43 (ltV t s p J) z).2) (L) := by
  refine cfI_of (own := RX10) (l := [some (rf g 54), some (.int (43)), none, none]) 2 rfl rfl rfl (Nat.le_of_ble_eq_true rfl) ?_
  refine tm_iload_1 1 rfl dX10_isDone_0 ?_
  refine tm_look (off := 110) 111 (by decide +kernel) (by decide +kernel) rfl dX10_isDone_1 ?_
  refine tm_iconst (0) rfl 112 rfl dX10_isDone_111 ?_
  refine tm_istore_2 (by decide) rfl 113 rfl dX10_isDone_112 ?_
  refine tm_iconst (0) rfl 114 rfl dX10_isDone_113 ?_
  refine tm_istore_3 (by decide) rfl 115 rfl dX10_isDone_114 ?_
  refine tm_loop (N := J) (fun k => Tm g (d + 3) RX10 cX10_isDone 4 (some .boolean) (QI g (bI (decide (0 ≤ (opCl σ 43 (ltV t s p J) z).1))) (putM M (opCl σ 43 (ltV t s p J) z).2) (L)) 115 [some (rf g 54), some (.int (43)), some (.int (ltV t s p k)), some (.int (nI k))] [] (M) (L)) (fun k hk ih => ?_) ?_
  · refine tm_iload_3 116 rfl dX10_isDone_115 ?_
    refine tm_aload_0 117 rfl dX10_isDone_116 ?_
    refine tm_geti fl_X10_194 rfl rfl 120 rfl dX10_isDone_117 ?_
    rw [h12]
    refine tm_icmp_ge_f 123 (nI_ge hk (by omega)) rfl rfl dX10_isDone_120 ?_
    refine tm_iload_2 124 rfl dX10_isDone_123 ?_
    refine tm_iconst (1) rfl 125 rfl dX10_isDone_124 ?_
    refine tm_aload_0 126 rfl dX10_isDone_125 ?_
    refine tm_getr fl_X10_34 rfl rfl 129 rfl dX10_isDone_126 ?_
    refine tm_iload_3 130 rfl dX10_isDone_129 ?_
    refine tm_ald rfl (ix := k) (ix_nI (by omega) (by decide)) 131 rfl dX10_isDone_130 ?_
    rw [hd k hk]
    refine tm_ishl 132 rfl dX10_isDone_131 ?_
    refine tm_ior 133 rfl dX10_isDone_132 ?_
    refine tm_istore_2 (by decide) rfl 134 rfl dX10_isDone_133 ?_
    refine tm_iinc_3 (nI (k + 1)) (iinc1 k) (by decide) rfl 137 rfl dX10_isDone_134 ?_
    refine tm_goto 115 rfl dX10_isDone_137 ?_
    exact ih
  · refine tm_iload_3 116 rfl dX10_isDone_115 ?_
    refine tm_aload_0 117 rfl dX10_isDone_116 ?_
    refine tm_geti fl_X10_194 rfl rfl 120 rfl dX10_isDone_117 ?_
    rw [h12]
    refine tm_icmp_ge_t 140 (nI_le (Nat.le_refl _) (by omega)) rfl dX10_isDone_120 ?_
    refine tm_aload_0 141 rfl dX10_isDone_140 ?_
    refine tm_iload_2 142 rfl dX10_isDone_141 ?_
    refine tm_iload_1 143 rfl dX10_isDone_142 ?_
    refine tm_bipush (43) (by decide) 145 rfl dX10_isDone_143 ?_
    refine tm_icmp_ne_f 148 (by decide) rfl rfl dX10_isDone_145 ?_
    refine tm_iconst (1) rfl 149 rfl dX10_isDone_148 ?_
    refine tm_goto 153 rfl dX10_isDone_149 ?_
    refine tm_callV_I (ci := 9) (c_X10_say hM hσ) mv_X10_say ml_X10_212 rfl rfl rfl rfl rfl (Nat.le_of_ble_eq_true rfl) 156 rfl dX10_isDone_153 ?_
    refine tm_if_lt 163 159 rfl rfl dX10_isDone_156 (fun h156 => ?_) (fun h156 => ?_)
    · refine tm_iconst (0) rfl 164 rfl dX10_isDone_163 ?_
      exact tm_zret (by decide) (by rw [cl_43]; first | exact ge_y h156 | exact ge_n h156) (by rw [cl_43]) rfl dX10_isDone_164
    · refine tm_iconst (1) rfl 160 rfl dX10_isDone_159 ?_
      refine tm_goto 164 rfl dX10_isDone_160 ?_
      exact tm_zret (by decide) (by rw [cl_43]; first | exact ge_y h156 | exact ge_n h156) (by rw [cl_43]) rfl dX10_isDone_164

set_option maxRecDepth 100000 in
set_option maxHeartbeats 4000000 in
theorem c_X10_isDone_45 {g : GC} {d : Nat} {M : MI} {L : ML} {σ : AS} (hM : hasM M σ) (hσ : okS σ) {t : Nat → Int32} {s p J : Nat} {z : Int32} (hJ : J ≤ 4) (h12 : M 54 12 = nI J) (hd : ∀ j, j < J → M 62 j = sg t s (p + j) - 48) : CfI g (d + 3) yX10_isDone cX10_isDone 4 .boolean [rf g 54, .int (45)] M L (bI (decide (0 ≤ (opCl σ 45 (ltV t s p J) z).1))) (putM M (opCl σ 45 (ltV t s p J) z).2) (L) := by
  refine cfI_of (own := RX10) (l := [some (rf g 54), some (.int (45)), none, none]) 2 rfl rfl rfl (Nat.le_of_ble_eq_true rfl) ?_
  refine tm_iload_1 1 rfl dX10_isDone_0 ?_
  refine tm_look (off := 110) 111 (by decide +kernel) (by decide +kernel) rfl dX10_isDone_1 ?_
  refine tm_iconst (0) rfl 112 rfl dX10_isDone_111 ?_
  refine tm_istore_2 (by decide) rfl 113 rfl dX10_isDone_112 ?_
  refine tm_iconst (0) rfl 114 rfl dX10_isDone_113 ?_
  refine tm_istore_3 (by decide) rfl 115 rfl dX10_isDone_114 ?_
  refine tm_loop (N := J) (fun k => Tm g (d + 3) RX10 cX10_isDone 4 (some .boolean) (QI g (bI (decide (0 ≤ (opCl σ 45 (ltV t s p J) z).1))) (putM M (opCl σ 45 (ltV t s p J) z).2) (L)) 115 [some (rf g 54), some (.int (45)), some (.int (ltV t s p k)), some (.int (nI k))] [] (M) (L)) (fun k hk ih => ?_) ?_
  · refine tm_iload_3 116 rfl dX10_isDone_115 ?_
    refine tm_aload_0 117 rfl dX10_isDone_116 ?_
    refine tm_geti fl_X10_194 rfl rfl 120 rfl dX10_isDone_117 ?_
    rw [h12]
    refine tm_icmp_ge_f 123 (nI_ge hk (by omega)) rfl rfl dX10_isDone_120 ?_
    refine tm_iload_2 124 rfl dX10_isDone_123 ?_
    refine tm_iconst (1) rfl 125 rfl dX10_isDone_124 ?_
    refine tm_aload_0 126 rfl dX10_isDone_125 ?_
    refine tm_getr fl_X10_34 rfl rfl 129 rfl dX10_isDone_126 ?_
    refine tm_iload_3 130 rfl dX10_isDone_129 ?_
    refine tm_ald rfl (ix := k) (ix_nI (by omega) (by decide)) 131 rfl dX10_isDone_130 ?_
    rw [hd k hk]
    refine tm_ishl 132 rfl dX10_isDone_131 ?_
    refine tm_ior 133 rfl dX10_isDone_132 ?_
    refine tm_istore_2 (by decide) rfl 134 rfl dX10_isDone_133 ?_
    refine tm_iinc_3 (nI (k + 1)) (iinc1 k) (by decide) rfl 137 rfl dX10_isDone_134 ?_
    refine tm_goto 115 rfl dX10_isDone_137 ?_
    exact ih
  · refine tm_iload_3 116 rfl dX10_isDone_115 ?_
    refine tm_aload_0 117 rfl dX10_isDone_116 ?_
    refine tm_geti fl_X10_194 rfl rfl 120 rfl dX10_isDone_117 ?_
    rw [h12]
    refine tm_icmp_ge_t 140 (nI_le (Nat.le_refl _) (by omega)) rfl dX10_isDone_120 ?_
    refine tm_aload_0 141 rfl dX10_isDone_140 ?_
    refine tm_iload_2 142 rfl dX10_isDone_141 ?_
    refine tm_iload_1 143 rfl dX10_isDone_142 ?_
    refine tm_bipush (43) (by decide) 145 rfl dX10_isDone_143 ?_
    refine tm_icmp_ne_t 152 (by decide) rfl dX10_isDone_145 ?_
    refine tm_iconst (0) rfl 153 rfl dX10_isDone_152 ?_
    refine tm_callV_I (ci := 9) (c_X10_say hM hσ) mv_X10_say ml_X10_212 rfl rfl rfl rfl rfl (Nat.le_of_ble_eq_true rfl) 156 rfl dX10_isDone_153 ?_
    refine tm_if_lt 163 159 rfl rfl dX10_isDone_156 (fun h156 => ?_) (fun h156 => ?_)
    · refine tm_iconst (0) rfl 164 rfl dX10_isDone_163 ?_
      exact tm_zret (by decide) (by rw [cl_45]; first | exact ge_y h156 | exact ge_n h156) (by rw [cl_45]) rfl dX10_isDone_164
    · refine tm_iconst (1) rfl 160 rfl dX10_isDone_159 ?_
      refine tm_goto 164 rfl dX10_isDone_160 ?_
      exact tm_zret (by decide) (by rw [cl_45]; first | exact ge_y h156 | exact ge_n h156) (by rw [cl_45]) rfl dX10_isDone_164

theorem c_X10_isDone {g : GC} {d : Nat} {M : MI} {L : ML} {σ : AS} (hM : hasM M σ) (hσ : okS σ) {t : Nat → Int32} {s p : Nat} (hk : ¬ kd (sg t s p) = 0) (hD : dgQ (kd (sg t s p)) t s p M) : CfI g (d + 3) yX10_isDone cX10_isDone 4 .boolean [rf g 54, .int (sg t s p)] M L (bI (decide (0 ≤ (opCl σ (sg t s p) (fsK (kd (sg t s p)) t s p) (scK (kd (sg t s p)) t s p)).1))) (putM M (opCl σ (sg t s p) (fsK (kd (sg t s p)) t s p) (scK (kd (sg t s p)) t s p)).2) L := by
  rcases kd_n hk with q | q | q | q | q | q | q | q | q | q | q
  · rw [show kd (sg t s p) = 1 by rw [q]; decide] at hD ⊢; rw [q]; exact c_X10_isDone_110 hM hσ (hD.1 (by decide))
  · rw [show kd (sg t s p) = 1 by rw [q]; decide] at hD ⊢; rw [q]; exact c_X10_isDone_116 hM hσ (hD.1 (by decide))
  · rw [show kd (sg t s p) = 2 by rw [q]; decide] at hD ⊢; rw [q]; exact c_X10_isDone_43 hM hσ (ltJ_le _ _ _ _) (hD.2.2.2.2 rfl).1 (hD.2.2.2.2 rfl).2
  · rw [show kd (sg t s p) = 2 by rw [q]; decide] at hD ⊢; rw [q]; exact c_X10_isDone_45 hM hσ (ltJ_le _ _ _ _) (hD.2.2.2.2 rfl).1 (hD.2.2.2.2 rfl).2
  · rw [show kd (sg t s p) = 3 by rw [q]; decide] at hD ⊢; rw [q]; exact c_X10_isDone_119 hM hσ (hD.1 (by decide)) (hD.2.2.1 rfl)
  · rw [show kd (sg t s p) = 4 by rw [q]; decide] at hD ⊢; rw [q]; exact c_X10_isDone_113 hM hσ (hD.2.2.2.1 rfl)
  · rw [show kd (sg t s p) = 5 by rw [q]; decide] at hD ⊢; rw [q]; exact c_X10_isDone_120 hM hσ (hD.1 (by decide)) (hD.2.1 rfl)
  · rw [show kd (sg t s p) = 6 by rw [q]; decide] at hD ⊢; rw [q]; exact c_X10_isDone_103 hM hσ 
  · rw [show kd (sg t s p) = 6 by rw [q]; decide] at hD ⊢; rw [q]; exact c_X10_isDone_100 hM hσ 
  · rw [show kd (sg t s p) = 6 by rw [q]; decide] at hD ⊢; rw [q]; exact c_X10_isDone_111 hM hσ 
  · rw [show kd (sg t s p) = 6 by rw [q]; decide] at hD ⊢; rw [q]; exact c_X10_isDone_107 hM hσ 

/-! told -/
def toN (σ : AS) (k : Nat) : Int32 := if k = 0 then nI σ.1 else if k = 1 then nI σ.2.1 else if k = 2 then nI σ.2.2.1 else if k = 3 then nI (wgN σ.1 σ.2.2.2.1 σ.2.2.2.2) else if k = 4 then σ.2.2.2.2 + 100 else if k = 5 then bI (rsB σ.1 σ.2.1) else if k = 6 then bI (decide (dlN σ.1 σ.2.1 = σ.2.1)) else if k = 7 then bI (LR σ.1 σ.2.1).isSome else if k = 8 then nI (twN σ.1 σ.2.1) else if k = 9 then nI (cnt (llB σ.2.1) (2 ^ σ.1)) else if k = 10 then nI (orbF σ.1 σ.2.1).1 else ansSt (orbF σ.1 σ.2.1) σ.2.2.1
theorem toN_0 (σ : AS) : nI σ.1 = toN σ 0 := by unfold toN; rw [if_pos rfl]
theorem toN_1 (σ : AS) : nI σ.2.1 = toN σ 1 := by unfold toN; rw [if_neg (by decide), if_pos rfl]
theorem toN_2 (σ : AS) : nI σ.2.2.1 = toN σ 2 := by unfold toN; rw [if_neg (by decide), if_neg (by decide), if_pos rfl]
theorem toN_3 (σ : AS) : nI (wgN σ.1 σ.2.2.2.1 σ.2.2.2.2) = toN σ 3 := by unfold toN; rw [if_neg (by decide), if_neg (by decide), if_neg (by decide), if_pos rfl]
theorem toN_4 (σ : AS) : σ.2.2.2.2 + 100 = toN σ 4 := by unfold toN; rw [if_neg (by decide), if_neg (by decide), if_neg (by decide), if_neg (by decide), if_pos rfl]
theorem toN_5 (σ : AS) : bI (rsB σ.1 σ.2.1) = toN σ 5 := by unfold toN; rw [if_neg (by decide), if_neg (by decide), if_neg (by decide), if_neg (by decide), if_neg (by decide), if_pos rfl]
theorem toN_6 (σ : AS) : bI (decide (dlN σ.1 σ.2.1 = σ.2.1)) = toN σ 6 := by unfold toN; rw [if_neg (by decide), if_neg (by decide), if_neg (by decide), if_neg (by decide), if_neg (by decide), if_neg (by decide), if_pos rfl]
theorem toN_7 (σ : AS) : bI (LR σ.1 σ.2.1).isSome = toN σ 7 := by unfold toN; rw [if_neg (by decide), if_neg (by decide), if_neg (by decide), if_neg (by decide), if_neg (by decide), if_neg (by decide), if_neg (by decide), if_pos rfl]
theorem toN_8 (σ : AS) : nI (twN σ.1 σ.2.1) = toN σ 8 := by unfold toN; rw [if_neg (by decide), if_neg (by decide), if_neg (by decide), if_neg (by decide), if_neg (by decide), if_neg (by decide), if_neg (by decide), if_neg (by decide), if_pos rfl]
theorem toN_9 (σ : AS) : nI (cnt (llB σ.2.1) (2 ^ σ.1)) = toN σ 9 := by unfold toN; rw [if_neg (by decide), if_neg (by decide), if_neg (by decide), if_neg (by decide), if_neg (by decide), if_neg (by decide), if_neg (by decide), if_neg (by decide), if_neg (by decide), if_pos rfl]
theorem toN_10 (σ : AS) : nI (orbF σ.1 σ.2.1).1 = toN σ 10 := by unfold toN; rw [if_neg (by decide), if_neg (by decide), if_neg (by decide), if_neg (by decide), if_neg (by decide), if_neg (by decide), if_neg (by decide), if_neg (by decide), if_neg (by decide), if_neg (by decide), if_pos rfl]
theorem toN_11 (σ : AS) : ansSt (orbF σ.1 σ.2.1) σ.2.2.1 = toN σ 11 := by unfold toN; rw [if_neg (by decide), if_neg (by decide), if_neg (by decide), if_neg (by decide), if_neg (by decide), if_neg (by decide), if_neg (by decide), if_neg (by decide), if_neg (by decide), if_neg (by decide), if_neg (by decide)]
def ansTold (σ : AS) (x : Int32) : Int32 := if inN x 12 = true then toN σ (iN x) else -1
theorem to_k (σ : AS) {k : Nat} (h : k < 12) : ansTold σ (nI k) = toN σ k := by
  unfold ansTold
  rw [if_pos (by rw [inN_nI (by omega)]; exact decide_eq_true h), iN_nI (by omega)]
theorem to_x {σ : AS} {x : Int32} (h : ¬ inN x 12 = true) : ansTold σ x = -1 := if_neg h
/-- scratch of the class, and of the model -/
def frX (M M' : MI) : Prop := ∀ i k, ¬ (41 ≤ i ∧ i ≤ 53) → M' i k = M i k
theorem frX.rf {M : MI} : frX M M := fun _ _ _ => rfl
theorem frX.tr {M M1 M2 : MI} (h : frX M M1) (h2 : frX M1 M2) : frX M M2 := fun i k q => (h2 i k q).trans (h i k q)
theorem frX.S {M M' : MI} (h : frS M M') : frX M M' := fun i k q => h i k (by omega)
theorem frX.O {M M' : MI} (h : frO M M') : frX M M' := fun i k q => h i k (by omega)
theorem orbI_eq {M M' : MI} (h6 : M' 46 3 = M 46 3) (h7 : M' 47 = M 47) (h8 : M' 48 = M 48) (h : orbI M) : orbI M' := by
  obtain ⟨s, f, a, b, c, e⟩ := h
  exact ⟨s, f, h6.trans a, b, fun i hi => by rw [h8]; exact c i hi, fun w hw q => by rw [h7]; exact e w hw q⟩
theorem orbI_S {M M' : MI} (h : frS M M') (ho : orbI M) : orbI M' := orbI_eq (h 46 3 (by decide)) (h.row (by decide)) (h.row (by decide)) ho
def frY (M M' : MI) : Prop := ∀ i k, ¬ ((57 ≤ i ∧ i ≤ 60) ∨ (i = 54 ∧ k = 5)) → M' i k = M i k
theorem frY.rf {M : MI} : frY M M := fun _ _ _ => rfl
theorem frY.M {M M' : MI} (h : frM M M') : frY M M' := fun i k q => h i k (by omega)
theorem frY.W {M M' : MI} (h : frW M M') : frY M M' := fun i k q => by rw [h i (by omega) (by omega)]
theorem ll_cnt {n c : Nat} (h4 : n ≤ 4) : cnt (llN n c).testBit 16 = cnt (llB c) (2 ^ n) := by
  have h16 := pow4 h4
  unfold llN
  rw [cnt_16 h16 (bits_lt _ _)]
  exact cnt_congr (fun k hk => by rw [bits_test, decide_eq_true hk, Bool.true_and])
set_option maxRecDepth 100000 in
set_option maxHeartbeats 4000000 in
theorem c_X9_told {g : GC} {d : Nat} {M : MI} {L : ML} {σ : AS} (hC : hasC M σ) (hσ : okS σ) (hOI : orbI M) {x : Int32} : CrI g (d + 5) yX9_told cX9_told 2 .int [rf g 0, .int x] M L (fun r M' L' => L' = L ∧ r = ansTold σ x ∧ frX M M' ∧ orbI M') := by
  have hn := hC.1
  have h4 := hσ.2.1
  have h16 := pow4 h4
  have hp1 := Nat.two_pow_pos σ.1
  have hc := okp hσ
  have h65 := p65 h4
  have hll := bits_lt (llB σ.2.1) (2 ^ σ.1)
  refine crI_of (own := RX9) (l := [some (rf g 0), some (.int x)]) 0 rfl rfl rfl (Nat.le_of_ble_eq_true rfl) ?_
  refine tm_iload_1 1 rfl dX9_told_0 ?_
  by_cases hs1 : inN x 12 = true
  · obtain ⟨q1, hq1, rfl⟩ := inN_of hs1
    rcases (show q1 = 0 ∨ q1 = 1 ∨ q1 = 2 ∨ q1 = 3 ∨ q1 = 4 ∨ q1 = 5 ∨ q1 = 6 ∨ q1 = 7 ∨ q1 = 8 ∨ q1 = 9 ∨ q1 = 10 ∨ q1 = 11 by omega) with rfl | rfl | rfl | rfl | rfl | rfl | rfl | rfl | rfl | rfl | rfl | rfl
    · refine tm_swIn (off := 63) 64 (by decide) (by decide) (by decide +kernel) rfl dX9_told_1 ?_
      refine tm_aload_0 65 rfl dX9_told_64 ?_
      refine tm_getr fl_X9_12 rfl rfl 68 rfl dX9_told_65 ?_
      refine tm_geti fl_X9_67 rfl rfl 71 rfl dX9_told_68 ?_
      rw [hn]
      exact tm_iretR ⟨rfl, (by rw [to_k σ (k := 0) (by decide)]; exact toN_0 σ), frX.rf, hOI⟩ dX9_told_71
    · refine tm_swIn (off := 71) 72 (by decide) (by decide) (by decide +kernel) rfl dX9_told_1 ?_
      refine tm_aload_0 73 rfl dX9_told_72 ?_
      refine tm_getr fl_X9_12 rfl rfl 76 rfl dX9_told_73 ?_
      refine tm_geti fl_X9_82 rfl rfl 79 rfl dX9_told_76 ?_
      rw [hC.2.1]
      exact tm_iretR ⟨rfl, (by rw [to_k σ (k := 1) (by decide)]; exact toN_1 σ), frX.rf, hOI⟩ dX9_told_79
    · refine tm_swIn (off := 79) 80 (by decide) (by decide) (by decide +kernel) rfl dX9_told_1 ?_
      refine tm_aload_0 81 rfl dX9_told_80 ?_
      refine tm_getr fl_X9_12 rfl rfl 84 rfl dX9_told_81 ?_
      refine tm_geti fl_X9_141 rfl rfl 87 rfl dX9_told_84 ?_
      rw [hC.2.2.1]
      exact tm_iretR ⟨rfl, (by rw [to_k σ (k := 2) (by decide)]; exact toN_2 σ), frX.rf, hOI⟩ dX9_told_87
    · refine tm_swIn (off := 87) 88 (by decide) (by decide) (by decide +kernel) rfl dX9_told_1 ?_
      refine tm_aload_0 89 rfl dX9_told_88 ?_
      refine tm_getr fl_X9_12 rfl rfl 92 rfl dX9_told_89 ?_
      refine tm_callV_I (ci := 3) (c_X4_weighed hC hσ) mv_X4_weighed ml_X9_108 rfl rfl rfl rfl rfl (Nat.le_of_ble_eq_true rfl) 95 rfl dX9_told_92 ?_
      exact tm_iretR ⟨rfl, (by rw [to_k σ (k := 3) (by decide)]; exact toN_3 σ), frX.rf, hOI⟩ dX9_told_95
    · refine tm_swIn (off := 95) 96 (by decide) (by decide) (by decide +kernel) rfl dX9_told_1 ?_
      refine tm_aload_0 97 rfl dX9_told_96 ?_
      refine tm_getr fl_X9_12 rfl rfl 100 rfl dX9_told_97 ?_
      refine tm_geti fl_X9_105 rfl rfl 103 rfl dX9_told_100 ?_
      rw [hC.2.2.2.1]
      refine tm_bipush (100) (by decide) 105 rfl dX9_told_103 ?_
      refine tm_iadd 106 rfl dX9_told_105 ?_
      exact tm_iretR ⟨rfl, (by rw [to_k σ (k := 4) (by decide)]; exact toN_4 σ), frX.rf, hOI⟩ dX9_told_106
    · refine tm_swIn (off := 106) 107 (by decide) (by decide) (by decide +kernel) rfl dX9_told_1 ?_
      refine tm_aload_0 108 rfl dX9_told_107 ?_
      refine tm_getr fl_X9_12 rfl rfl 111 rfl dX9_told_108 ?_
      refine tm_geti fl_X9_67 rfl rfl 114 rfl dX9_told_111 ?_
      rw [hn]
      refine tm_aload_0 115 rfl dX9_told_114 ?_
      refine tm_getr fl_X9_12 rfl rfl 118 rfl dX9_told_115 ?_
      refine tm_geti fl_X9_82 rfl rfl 121 rfl dX9_told_118 ?_
      rw [hC.2.1]
      refine tm_callS_I (c_X0_isRising h4 hσ.2.2.1) ms_X0_isRising ml_X9_194 rfl rfl (Nat.le_of_ble_eq_true rfl) 124 rfl dX9_told_121 ?_
      refine tm_callS_I (c_X9_oneIf) ms_X9_oneIf ml_X9_197 rfl rfl (Nat.le_of_ble_eq_true rfl) 127 rfl dX9_told_124 ?_
      exact tm_iretR ⟨rfl, (by rw [to_k σ (k := 5) (by decide)]; exact toN_5 σ), frX.rf, hOI⟩ dX9_told_127
    · refine tm_swIn (off := 127) 128 (by decide) (by decide) (by decide +kernel) rfl dX9_told_1 ?_
      refine tm_aload_0 129 rfl dX9_told_128 ?_
      refine tm_getr fl_X9_12 rfl rfl 132 rfl dX9_told_129 ?_
      refine tm_geti fl_X9_67 rfl rfl 135 rfl dX9_told_132 ?_
      rw [hn]
      refine tm_aload_0 136 rfl dX9_told_135 ?_
      refine tm_getr fl_X9_12 rfl rfl 139 rfl dX9_told_136 ?_
      refine tm_geti fl_X9_82 rfl rfl 142 rfl dX9_told_139 ?_
      rw [hC.2.1]
      refine tm_callS_I (c_X0_isOwnDual h4 hσ.2.2.1) ms_X0_isOwnDual ml_X9_201 rfl rfl (Nat.le_of_ble_eq_true rfl) 145 rfl dX9_told_142 ?_
      refine tm_callS_I (c_X9_oneIf) ms_X9_oneIf ml_X9_197 rfl rfl (Nat.le_of_ble_eq_true rfl) 148 rfl dX9_told_145 ?_
      exact tm_iretR ⟨rfl, (by rw [to_k σ (k := 6) (by decide)]; exact toN_6 σ), frX.rf, hOI⟩ dX9_told_148
    · refine tm_swIn (off := 148) 149 (by decide) (by decide) (by decide +kernel) rfl dX9_told_1 ?_
      refine tm_aload_0 150 rfl dX9_told_149 ?_
      refine tm_getr fl_X9_41 rfl rfl 153 rfl dX9_told_150 ?_
      refine tm_aload_0 154 rfl dX9_told_153 ?_
      refine tm_getr fl_X9_12 rfl rfl 157 rfl dX9_told_154 ?_
      refine tm_geti fl_X9_67 rfl rfl 160 rfl dX9_told_157 ?_
      rw [hn]
      refine tm_aload_0 161 rfl dX9_told_160 ?_
      refine tm_getr fl_X9_12 rfl rfl 164 rfl dX9_told_161 ?_
      refine tm_geti fl_X9_82 rfl rfl 167 rfl dX9_told_164 ?_
      rw [hC.2.1]
      refine tm_callVr_I (ci := 2) (c_X3_balance h4 hσ.2.2.1) mv_X3_balance ml_X9_124 rfl rfl rfl rfl rfl (Nat.le_of_ble_eq_true rfl) 170 rfl dX9_told_167 (fun F1 M1 L1 hQ => ?_)
      obtain ⟨hL1, hF, hr, -⟩ := hQ
      have hL1 := hL1.symm
      subst hL1
      rw [hr]
      refine tm_callS_I (c_X9_oneIf) ms_X9_oneIf ml_X9_197 rfl rfl (Nat.le_of_ble_eq_true rfl) 173 rfl dX9_told_170 ?_
      exact tm_iretR ⟨rfl, (by rw [to_k σ (k := 7) (by decide)]; exact toN_7 σ), frX.S hF, orbI_S hF hOI⟩ dX9_told_173
    · refine tm_swIn (off := 173) 174 (by decide) (by decide) (by decide +kernel) rfl dX9_told_1 ?_
      refine tm_aload_0 175 rfl dX9_told_174 ?_
      refine tm_getr fl_X9_62 rfl rfl 178 rfl dX9_told_175 ?_
      refine tm_aload_0 179 rfl dX9_told_178 ?_
      refine tm_getr fl_X9_12 rfl rfl 182 rfl dX9_told_179 ?_
      refine tm_geti fl_X9_67 rfl rfl 185 rfl dX9_told_182 ?_
      rw [hn]
      refine tm_aload_0 186 rfl dX9_told_185 ?_
      refine tm_getr fl_X9_12 rfl rfl 189 rfl dX9_told_186 ?_
      refine tm_geti fl_X9_82 rfl rfl 192 rfl dX9_told_189 ?_
      rw [hC.2.1]
      refine tm_callV_I (ci := 7) (c_X8_ofCode hσ.1 h4 hσ.2.2.1) mv_X8_ofCode ml_X9_204 rfl rfl rfl rfl rfl (Nat.le_of_ble_eq_true rfl) 195 rfl dX9_told_192 ?_
      exact tm_iretR ⟨rfl, (by rw [to_k σ (k := 8) (by decide)]; exact toN_8 σ), (fun i k q => by rw [kyM_ne (show i ≠ 53 by omega)]), orbI_eq (by rw [kyM_ne (by decide)]) (kyM_ne (by decide)) (kyM_ne (by decide)) hOI⟩ dX9_told_195
    · refine tm_swIn (off := 195) 196 (by decide) (by decide) (by decide +kernel) rfl dX9_told_1 ?_
      refine tm_aload_0 197 rfl dX9_told_196 ?_
      refine tm_getr fl_X9_12 rfl rfl 200 rfl dX9_told_197 ?_
      refine tm_geti fl_X9_67 rfl rfl 203 rfl dX9_told_200 ?_
      rw [hn]
      refine tm_aload_0 204 rfl dX9_told_203 ?_
      refine tm_getr fl_X9_12 rfl rfl 207 rfl dX9_told_204 ?_
      refine tm_geti fl_X9_82 rfl rfl 210 rfl dX9_told_207 ?_
      rw [hC.2.1]
      refine tm_callS_I (c_X0_leastOnes h4 (c := σ.2.1) (by omega)) ms_X0_leastOnes ml_X9_207 rfl rfl (Nat.le_of_ble_eq_true rfl) 213 rfl dX9_told_210 ?_
      refine tm_callS_I (c_J6_bitCount_0f7a4 (x := llN σ.1 σ.2.1) (by unfold llN; omega)) ms_J6_bitCount_0f7a4 ml_X9_210 rfl rfl (Nat.le_of_ble_eq_true rfl) 216 rfl dX9_told_213 ?_
      exact tm_iretR ⟨rfl, (by rw [to_k σ (k := 9) (by decide)]; rw [ll_cnt h4]; exact toN_9 σ), frX.rf, hOI⟩ dX9_told_216
    · refine tm_swIn (off := 216) 217 (by decide) (by decide) (by decide +kernel) rfl dX9_told_1 ?_
      refine tm_aload_0 218 rfl dX9_told_217 ?_
      refine tm_getr fl_X9_48 rfl rfl 221 rfl dX9_told_218 ?_
      refine tm_aload_0 222 rfl dX9_told_221 ?_
      refine tm_getr fl_X9_12 rfl rfl 225 rfl dX9_told_222 ?_
      refine tm_geti fl_X9_67 rfl rfl 228 rfl dX9_told_225 ?_
      rw [hn]
      refine tm_aload_0 229 rfl dX9_told_228 ?_
      refine tm_getr fl_X9_12 rfl rfl 232 rfl dX9_told_229 ?_
      refine tm_geti fl_X9_82 rfl rfl 235 rfl dX9_told_232 ?_
      rw [hC.2.1]
      refine tm_callVr_V (ci := 0) ((by obtain ⟨s, f, a, b, c, e⟩ := hOI; exact c_X1_spread hσ.1 h4 hσ.2.2.1 a b c e)) mv_X1_spread ml_X9_215 rfl rfl rfl rfl rfl (Nat.le_of_ble_eq_true rfl) 238 rfl dX9_told_235 (fun M1 L1 hQ => ?_)
      obtain ⟨hL1, hO1, hF1⟩ := hQ
      have hL1 := hL1.symm
      subst hL1
      have hok := bf_ok h4 hσ.2.2.1 768
      refine tm_aload_0 239 rfl dX9_told_238 ?_
      refine tm_getr fl_X9_48 rfl rfl 242 rfl dX9_told_239 ?_
      refine tm_geti fl_X9_219 rfl rfl 245 rfl dX9_told_242 ?_
      rw [hO1.1]
      exact tm_iretR ⟨rfl, (by rw [to_k σ (k := 10) (by decide)]; exact toN_10 σ), frX.O hF1, orbI_of h4 hO1 hok⟩ dX9_told_245
    · refine tm_swIn (off := 245) 246 (by decide) (by decide) (by decide +kernel) rfl dX9_told_1 ?_
      refine tm_aload_0 247 rfl dX9_told_246 ?_
      refine tm_getr fl_X9_48 rfl rfl 250 rfl dX9_told_247 ?_
      refine tm_aload_0 251 rfl dX9_told_250 ?_
      refine tm_getr fl_X9_12 rfl rfl 254 rfl dX9_told_251 ?_
      refine tm_geti fl_X9_67 rfl rfl 257 rfl dX9_told_254 ?_
      rw [hn]
      refine tm_aload_0 258 rfl dX9_told_257 ?_
      refine tm_getr fl_X9_12 rfl rfl 261 rfl dX9_told_258 ?_
      refine tm_geti fl_X9_82 rfl rfl 264 rfl dX9_told_261 ?_
      rw [hC.2.1]
      refine tm_callVr_V (ci := 0) ((by obtain ⟨s, f, a, b, c, e⟩ := hOI; exact c_X1_spread hσ.1 h4 hσ.2.2.1 a b c e)) mv_X1_spread ml_X9_215 rfl rfl rfl rfl rfl (Nat.le_of_ble_eq_true rfl) 267 rfl dX9_told_264 (fun M1 L1 hQ => ?_)
      obtain ⟨hL1, hO1, hF1⟩ := hQ
      have hL1 := hL1.symm
      subst hL1
      have hok := bf_ok h4 hσ.2.2.1 768
      refine tm_aload_0 268 rfl dX9_told_267 ?_
      refine tm_getr fl_X9_48 rfl rfl 271 rfl dX9_told_268 ?_
      refine tm_aload_0 272 rfl dX9_told_271 ?_
      refine tm_getr fl_X9_12 rfl rfl 275 rfl dX9_told_272 ?_
      refine tm_geti fl_X9_141 rfl rfl 278 rfl dX9_told_275 ?_
      rw [hF1 1 2 (by decide), hC.2.2.1]
      refine tm_callV_I (ci := 0) (c_X1_stepsTo hok hO1 h4 (by have := okp2 hσ; omega)) mv_X1_stepsTo ml_X9_222 rfl rfl rfl rfl rfl (Nat.le_of_ble_eq_true rfl) 281 rfl dX9_told_278 ?_
      exact tm_iretR ⟨rfl, (by rw [to_k σ (k := 11) (by decide)]; exact toN_11 σ), frX.O hF1, orbI_of h4 hO1 hok⟩ dX9_told_281
  · refine tm_swOut 282 (sw_out hs1 rfl) rfl dX9_told_1 ?_
    refine tm_iconst (-1) rfl 283 rfl dX9_told_282 ?_
    exact tm_iretR ⟨rfl, (to_x hs1).symm, frX.rf, hOI⟩ dX9_told_283

set_option maxRecDepth 100000 in
set_option maxHeartbeats 4000000 in
theorem c_X10_told {g : GC} {d : Nat} {M : MI} {L : ML} {σ : AS} (hM : hasM M σ) (hσ : okS σ) {x : Int32} : CrI g (d + 8) yX10_told cX10_told 2 .int [rf g 54, .int x] M L (fun r M' L' => L' = L ∧ r = ansTold σ x ∧ frY M M') := by
  have hn := hM.1
  have h4 := hσ.2.1
  have h16 := pow4 h4
  have hp1 := Nat.two_pow_pos σ.1
  have hc := okp hσ
  have h65 := p65 h4
  have hwc : wgN σ.1 (fun v => M 55 (4 + v)) σ.2.2.2.2 = wgN σ.1 σ.2.2.2.1 σ.2.2.2.2 := wgN_congr (fun v hv => hM.2.2.2.2 v (by omega))
  have hdl := dlN_lt σ.1 σ.2.1
  refine crI_of (own := RX10) (l := [some (rf g 54), some (.int x)]) 0 rfl rfl rfl (Nat.le_of_ble_eq_true rfl) ?_
  refine tm_iload_1 1 rfl dX10_told_0 ?_
  by_cases hs1 : inN x 12 = true
  · obtain ⟨q1, hq1, rfl⟩ := inN_of hs1
    rcases (show q1 = 0 ∨ q1 = 1 ∨ q1 = 2 ∨ q1 = 3 ∨ q1 = 4 ∨ q1 = 5 ∨ q1 = 6 ∨ q1 = 7 ∨ q1 = 8 ∨ q1 = 9 ∨ q1 = 10 ∨ q1 = 11 by omega) with rfl | rfl | rfl | rfl | rfl | rfl | rfl | rfl | rfl | rfl | rfl | rfl
    · refine tm_swIn (off := 63) 64 (by decide) (by decide) (by decide +kernel) rfl dX10_told_1 ?_
      refine tm_aload_0 65 rfl dX10_told_64 ?_
      refine tm_getr fl_X10_11 rfl rfl 68 rfl dX10_told_65 ?_
      refine tm_iconst (0) rfl 69 rfl dX10_told_68 ?_
      refine tm_ald rfl (ix := 0) ⟨by decide, by decide, by decide⟩ 70 rfl dX10_told_69 ?_
      rw [hn]
      exact tm_iretR ⟨rfl, (by rw [to_k σ (k := 0) (by decide)]; exact toN_0 σ), frY.rf⟩ dX10_told_70
    · refine tm_swIn (off := 70) 71 (by decide) (by decide) (by decide +kernel) rfl dX10_told_1 ?_
      refine tm_aload_0 72 rfl dX10_told_71 ?_
      refine tm_getr fl_X10_11 rfl rfl 75 rfl dX10_told_72 ?_
      refine tm_iconst (1) rfl 76 rfl dX10_told_75 ?_
      refine tm_ald rfl (ix := 1) ⟨by decide, by decide, by decide⟩ 77 rfl dX10_told_76 ?_
      rw [hM.2.1]
      exact tm_iretR ⟨rfl, (by rw [to_k σ (k := 1) (by decide)]; exact toN_1 σ), frY.rf⟩ dX10_told_77
    · refine tm_swIn (off := 77) 78 (by decide) (by decide) (by decide +kernel) rfl dX10_told_1 ?_
      refine tm_aload_0 79 rfl dX10_told_78 ?_
      refine tm_getr fl_X10_11 rfl rfl 82 rfl dX10_told_79 ?_
      refine tm_iconst (2) rfl 83 rfl dX10_told_82 ?_
      refine tm_ald rfl (ix := 2) ⟨by decide, by decide, by decide⟩ 84 rfl dX10_told_83 ?_
      rw [hM.2.2.1]
      exact tm_iretR ⟨rfl, (by rw [to_k σ (k := 2) (by decide)]; exact toN_2 σ), frY.rf⟩ dX10_told_84
    · refine tm_swIn (off := 84) 85 (by decide) (by decide) (by decide +kernel) rfl dX10_told_1 ?_
      refine tm_aload_0 86 rfl dX10_told_85 ?_
      refine tm_callV_I (ci := 9) (c_X10_weighed hn h4) mv_X10_weighed ml_X10_94 rfl rfl rfl rfl rfl (Nat.le_of_ble_eq_true rfl) 89 rfl dX10_told_86 ?_
      rw [hM.2.2.2.1, hwc]
      exact tm_iretR ⟨rfl, (by rw [to_k σ (k := 3) (by decide)]; exact toN_3 σ), frY.rf⟩ dX10_told_89
    · refine tm_swIn (off := 89) 90 (by decide) (by decide) (by decide +kernel) rfl dX10_told_1 ?_
      refine tm_aload_0 91 rfl dX10_told_90 ?_
      refine tm_getr fl_X10_11 rfl rfl 94 rfl dX10_told_91 ?_
      refine tm_iconst (3) rfl 95 rfl dX10_told_94 ?_
      refine tm_ald rfl (ix := 3) ⟨by decide, by decide, by decide⟩ 96 rfl dX10_told_95 ?_
      rw [hM.2.2.2.1]
      refine tm_bipush (100) (by decide) 98 rfl dX10_told_96 ?_
      refine tm_iadd 99 rfl dX10_told_98 ?_
      exact tm_iretR ⟨rfl, (by rw [to_k σ (k := 4) (by decide)]; exact toN_4 σ), frY.rf⟩ dX10_told_99
    · refine tm_swIn (off := 99) 100 (by decide) (by decide) (by decide +kernel) rfl dX10_told_1 ?_
      refine tm_aload_0 101 rfl dX10_told_100 ?_
      refine tm_callV_I (ci := 9) (c_X10_isRising hn h4 hM.2.1 hσ.2.2.1) mv_X10_isRising ml_X10_148 rfl rfl rfl rfl rfl (Nat.le_of_ble_eq_true rfl) 104 rfl dX10_told_101 ?_
      refine tm_callS_I (c_X10_bit) ms_X10_bit ml_X10_90 rfl rfl (Nat.le_of_ble_eq_true rfl) 107 rfl dX10_told_104 ?_
      exact tm_iretR ⟨rfl, (by rw [to_k σ (k := 5) (by decide)]; exact toN_5 σ), frY.rf⟩ dX10_told_107
    · refine tm_swIn (off := 107) 108 (by decide) (by decide) (by decide +kernel) rfl dX10_told_1 ?_
      refine tm_aload_0 109 rfl dX10_told_108 ?_
      refine tm_aload_0 110 rfl dX10_told_109 ?_
      refine tm_getr fl_X10_11 rfl rfl 113 rfl dX10_told_110 ?_
      refine tm_iconst (1) rfl 114 rfl dX10_told_113 ?_
      refine tm_ald rfl (ix := 1) ⟨by decide, by decide, by decide⟩ 115 rfl dX10_told_114 ?_
      rw [hM.2.1]
      refine tm_callV_I (ci := 9) (c_X10_dual hn h4 (c := σ.2.1) (by omega)) mv_X10_dual ml_X10_107 rfl rfl rfl rfl rfl (Nat.le_of_ble_eq_true rfl) 118 rfl dX10_told_115 ?_
      refine tm_aload_0 119 rfl dX10_told_118 ?_
      refine tm_getr fl_X10_11 rfl rfl 122 rfl dX10_told_119 ?_
      refine tm_iconst (1) rfl 123 rfl dX10_told_122 ?_
      refine tm_ald rfl (ix := 1) ⟨by decide, by decide, by decide⟩ 124 rfl dX10_told_123 ?_
      refine tm_join2 132 (bI (decide (dlN σ.1 σ.2.1 = σ.2.1))) ?_ (fun hJ132 => ?_)
      · refine tm_callS_I (c_X10_bit (b := decide (dlN σ.1 σ.2.1 = σ.2.1))) ms_X10_bit ml_X10_90 rfl rfl (Nat.le_of_ble_eq_true rfl) 135 rfl dX10_told_132 ?_
        exact tm_iretR ⟨rfl, (by rw [to_k σ (k := 6) (by decide)]; exact toN_6 σ), frY.rf⟩ dX10_told_135
      · rw [hM.2.1]
        refine tm_icmp_ne 131 127 rfl rfl dX10_told_124 (fun h124 => ?_) (fun h124 => ?_)
        · refine tm_iconst (0) rfl 132 rfl dX10_told_131 ?_
          exact tm_top (by first | (have z : nI (dlN σ.1 σ.2.1) = nI σ.2.1 := h124; rw [decide_eq_true ((nI_eq (by omega) (by omega)).mp z)]; rfl) | (have z : ¬ nI (dlN σ.1 σ.2.1) = nI σ.2.1 := h124; rw [decide_eq_false (fun q => z (by rw [q]))]; rfl)) hJ132
        · refine tm_iconst (1) rfl 128 rfl dX10_told_127 ?_
          refine tm_goto 132 rfl dX10_told_128 ?_
          exact tm_top (by first | (have z : nI (dlN σ.1 σ.2.1) = nI σ.2.1 := h124; rw [decide_eq_true ((nI_eq (by omega) (by omega)).mp z)]; rfl) | (have z : ¬ nI (dlN σ.1 σ.2.1) = nI σ.2.1 := h124; rw [decide_eq_false (fun q => z (by rw [q]))]; rfl)) hJ132
    · refine tm_swIn (off := 135) 136 (by decide) (by decide) (by decide +kernel) rfl dX10_told_1 ?_
      refine tm_aload_0 137 rfl dX10_told_136 ?_
      refine tm_aload_0 138 rfl dX10_told_137 ?_
      refine tm_getr fl_X10_11 rfl rfl 141 rfl dX10_told_138 ?_
      refine tm_iconst (1) rfl 142 rfl dX10_told_141 ?_
      refine tm_ald rfl (ix := 1) ⟨by decide, by decide, by decide⟩ 143 rfl dX10_told_142 ?_
      rw [hM.2.1]
      refine tm_callVr_I (ci := 9) (c_X10_isLinear hn hσ.1 h4 (c := σ.2.1) (by omega)) mv_X10_isLinear ml_X10_101 rfl rfl rfl rfl rfl (Nat.le_of_ble_eq_true rfl) 146 rfl dX10_told_143 (fun F1 M1 L1 hQ => ?_)
      obtain ⟨hL1, hF, hr, -⟩ := hQ
      have hL1 := hL1.symm
      subst hL1
      rw [hr]
      refine tm_callS_I (c_X10_bit) ms_X10_bit ml_X10_90 rfl rfl (Nat.le_of_ble_eq_true rfl) 149 rfl dX10_told_146 ?_
      exact tm_iretR ⟨rfl, (by rw [to_k σ (k := 7) (by decide)]; exact toN_7 σ), frY.M hF⟩ dX10_told_149
    · refine tm_swIn (off := 149) 150 (by decide) (by decide) (by decide +kernel) rfl dX10_told_1 ?_
      refine tm_aload_0 151 rfl dX10_told_150 ?_
      refine tm_callV_I (ci := 9) (c_X10_twins hM hσ) mv_X10_twins ml_X10_152 rfl rfl rfl rfl rfl (Nat.le_of_ble_eq_true rfl) 154 rfl dX10_told_151 ?_
      exact tm_iretR ⟨rfl, (by rw [to_k σ (k := 8) (by decide)]; exact toN_8 σ), frY.rf⟩ dX10_told_154
    · refine tm_swIn (off := 154) 155 (by decide) (by decide) (by decide +kernel) rfl dX10_told_1 ?_
      refine tm_aload_0 156 rfl dX10_told_155 ?_
      refine tm_iconst (-1) rfl 157 rfl dX10_told_156 ?_
      refine tm_callV_I (ci := 9) (c_X10_nthLeast_all hn h4 hM.2.1 (by omega)) mv_X10_nthLeast ml_X10_139 rfl rfl rfl rfl rfl (Nat.le_of_ble_eq_true rfl) 160 rfl dX10_told_157 ?_
      exact tm_iretR ⟨rfl, (by rw [to_k σ (k := 9) (by decide)]; exact toN_9 σ), frY.rf⟩ dX10_told_160
    · refine tm_swIn (off := 160) 161 (by decide) (by decide) (by decide +kernel) rfl dX10_told_1 ?_
      refine tm_aload_0 162 rfl dX10_told_161 ?_
      refine tm_callVr_I (ci := 9) (c_X10_reached hM hσ) mv_X10_reached ml_X10_145 rfl rfl rfl rfl rfl (Nat.le_of_ble_eq_true rfl) 165 rfl dX10_told_162 (fun F1 M1 L1 hQ => ?_)
      obtain ⟨hL1, hr, -, hW⟩ := hQ
      have hL1 := hL1.symm
      subst hL1
      rw [hr]
      exact tm_iretR ⟨rfl, (by rw [to_k σ (k := 10) (by decide)]; exact toN_10 σ), frY.W hW⟩ dX10_told_165
    · refine tm_swIn (off := 165) 166 (by decide) (by decide) (by decide +kernel) rfl dX10_told_1 ?_
      refine tm_aload_0 167 rfl dX10_told_166 ?_
      refine tm_callVr_I (ci := 9) (c_X10_steps hM hσ) mv_X10_steps ml_X10_155 rfl rfl rfl rfl rfl (Nat.le_of_ble_eq_true rfl) 170 rfl dX10_told_167 (fun F1 M1 L1 hQ => ?_)
      obtain ⟨hL1, hr, hW⟩ := hQ
      have hL1 := hL1.symm
      subst hL1
      rw [hr]
      exact tm_iretR ⟨rfl, (by rw [to_k σ (k := 11) (by decide)]; exact toN_11 σ), frY.W hW⟩ dX10_told_170
  · refine tm_swOut 171 (sw_out hs1 rfl) rfl dX10_told_1 ?_
    refine tm_iconst (-1) rfl 172 rfl dX10_told_171 ?_
    exact tm_iretR ⟨rfl, (to_x hs1).symm, frY.rf⟩ dX10_told_172


/-! the class reads a text -/
theorem putC_put (M : MI) (σ τ : AS) : putC (putC M σ) τ = putC M τ := putC_eq (X := putC (putC M σ) τ) (M := M) (hasC_put _ _) (fun i h1 h2 => by rw [putC_ne h1 h2, putC_ne h1 h2]) (fun k a b c e => by rw [putC_1, putC_1]; unfold sRow; rw [if_neg a, if_neg b, if_neg c, if_neg e, if_neg a, if_neg b, if_neg c, if_neg e]) (fun k hk => by rw [putC_2, putC_2]; unfold wRow; rw [if_neg (by omega), if_neg (by omega)])
theorem cl_110 (σ : AS) (f s : Int32) : opCl σ 110 f s = opVot σ f := by unfold opCl; rw [if_pos rfl]
theorem cl_43 (σ : AS) (f s : Int32) : opCl σ 43 f s = opSay σ f 1 := by unfold opCl; rw [if_neg (by decide), if_pos rfl]
theorem cl_45 (σ : AS) (f s : Int32) : opCl σ 45 f s = opSay σ f 0 := by unfold opCl; rw [if_neg (by decide), if_neg (by decide), if_pos rfl]
theorem cl_119 (σ : AS) (f s : Int32) : opCl σ 119 f s = opWgt σ f s := by unfold opCl; rw [if_neg (by decide), if_neg (by decide), if_neg (by decide), if_pos rfl]
theorem cl_113 (σ : AS) (f s : Int32) : opCl σ 113 f s = opQuo σ f := by unfold opCl; rw [if_neg (by decide), if_neg (by decide), if_neg (by decide), if_neg (by decide), if_pos rfl]
theorem cl_103 (σ : AS) (f s : Int32) : opCl σ 103 f s = opWei σ := by unfold opCl; rw [if_neg (by decide), if_neg (by decide), if_neg (by decide), if_neg (by decide), if_neg (by decide), if_pos rfl]
theorem cl_100 (σ : AS) (f s : Int32) : opCl σ 100 f s = opDua σ := by unfold opCl; rw [if_neg (by decide), if_neg (by decide), if_neg (by decide), if_neg (by decide), if_neg (by decide), if_neg (by decide), if_pos rfl]
theorem cl_111 (σ : AS) (f s : Int32) : opCl σ 111 f s = opOpp σ := by unfold opCl; rw [if_neg (by decide), if_neg (by decide), if_neg (by decide), if_neg (by decide), if_neg (by decide), if_neg (by decide), if_neg (by decide), if_pos rfl]
theorem cl_116 (σ : AS) (f s : Int32) : opCl σ 116 f s = opTrn σ f := by unfold opCl; rw [if_neg (by decide), if_neg (by decide), if_neg (by decide), if_neg (by decide), if_neg (by decide), if_neg (by decide), if_neg (by decide), if_neg (by decide), if_pos rfl]
theorem cl_120 (σ : AS) (f s : Int32) : opCl σ 120 f s = opExc σ f s := by unfold opCl; rw [if_neg (by decide), if_neg (by decide), if_neg (by decide), if_neg (by decide), if_neg (by decide), if_neg (by decide), if_neg (by decide), if_neg (by decide), if_neg (by decide), if_pos rfl]
theorem cl_107 (σ : AS) (f s : Int32) : opCl σ 107 f s = opKeep σ := by unfold opCl; rw [if_neg (by decide), if_neg (by decide), if_neg (by decide), if_neg (by decide), if_neg (by decide), if_neg (by decide), if_neg (by decide), if_neg (by decide), if_neg (by decide), if_neg (by decide)]
theorem cl_irr {σ : AS} {x f f2 s s2 : Int32} (hk : ¬ kd x = 0) (h1 : 1 ≤ kd x ∧ kd x ≤ 5 → f = f2) (h2 : kd x = 3 ∨ kd x = 5 → s = s2) : opCl σ x f s = opCl σ x f2 s2 := by
  rcases kd_n hk with rfl | rfl | rfl | rfl | rfl | rfl | rfl | rfl | rfl | rfl | rfl
  · rw [h1 (by decide), cl_110, cl_110]
  · rw [h1 (by decide), cl_116, cl_116]
  · rw [h1 (by decide), cl_43, cl_43]
  · rw [h1 (by decide), cl_45, cl_45]
  · rw [h1 (by decide), h2 (by decide)]
  · rw [h1 (by decide), cl_113, cl_113]
  · rw [h1 (by decide), h2 (by decide)]
  · rw [cl_103, cl_103]
  · rw [cl_100, cl_100]
  · rw [cl_111, cl_111]
  · rw [cl_107, cl_107]
set_option maxRecDepth 100000 in
set_option maxHeartbeats 4000000 in
theorem c_X9_carryOut_110 {g : GC} {d : Nat} {M : MI} {L : ML} {σ : AS} (hC : hasC M σ) (hσ : okS σ) {f s : Int32} : CfI g (d + 4) yX9_carryOut cX9_carryOut 4 .int [rf g 0, .int (110), .int f, .int s] M L ((opCl σ 110 f s).1) (putC M (opCl σ 110 f s).2) (L) := by
  refine cfI_of (own := RX9) (l := [some (rf g 0), some (.int (110)), some (.int f), some (.int s)]) 0 rfl rfl rfl (Nat.le_of_ble_eq_true rfl) ?_
  refine tm_iload_1 1 rfl dX9_carryOut_0 ?_
  refine tm_look (off := 99) 100 (by decide +kernel) (by decide +kernel) rfl dX9_carryOut_1 ?_
  refine tm_aload_0 101 rfl dX9_carryOut_100 ?_
  refine tm_iload_2 102 rfl dX9_carryOut_101 ?_
  refine tm_callV_I (ci := 8) (c_X9_voters hC hσ) mv_X9_voters ml_X9_168 rfl rfl rfl rfl rfl (Nat.le_of_ble_eq_true rfl) 105 rfl dX9_carryOut_102 ?_
  exact tm_iret (by rw [cl_110]) (by rw [cl_110]) rfl dX9_carryOut_105

set_option maxRecDepth 100000 in
set_option maxHeartbeats 4000000 in
theorem c_X9_carryOut_43 {g : GC} {d : Nat} {M : MI} {L : ML} {σ : AS} (hC : hasC M σ) (hσ : okS σ) {f s : Int32} : CfI g (d + 4) yX9_carryOut cX9_carryOut 4 .int [rf g 0, .int (43), .int f, .int s] M L ((opCl σ 43 f s).1) (putC M (opCl σ 43 f s).2) (L) := by
  refine cfI_of (own := RX9) (l := [some (rf g 0), some (.int (43)), some (.int f), some (.int s)]) 0 rfl rfl rfl (Nat.le_of_ble_eq_true rfl) ?_
  refine tm_iload_1 1 rfl dX9_carryOut_0 ?_
  refine tm_look (off := 105) 106 (by decide +kernel) (by decide +kernel) rfl dX9_carryOut_1 ?_
  refine tm_aload_0 107 rfl dX9_carryOut_106 ?_
  refine tm_iload_2 108 rfl dX9_carryOut_107 ?_
  refine tm_iconst (1) rfl 109 rfl dX9_carryOut_108 ?_
  refine tm_callV_I (ci := 8) (c_X9_say hC hσ) mv_X9_say ml_X9_171 rfl rfl rfl rfl rfl (Nat.le_of_ble_eq_true rfl) 112 rfl dX9_carryOut_109 ?_
  exact tm_iret (by rw [cl_43]) (by rw [cl_43]) rfl dX9_carryOut_112

set_option maxRecDepth 100000 in
set_option maxHeartbeats 4000000 in
theorem c_X9_carryOut_45 {g : GC} {d : Nat} {M : MI} {L : ML} {σ : AS} (hC : hasC M σ) (hσ : okS σ) {f s : Int32} : CfI g (d + 4) yX9_carryOut cX9_carryOut 4 .int [rf g 0, .int (45), .int f, .int s] M L ((opCl σ 45 f s).1) (putC M (opCl σ 45 f s).2) (L) := by
  refine cfI_of (own := RX9) (l := [some (rf g 0), some (.int (45)), some (.int f), some (.int s)]) 0 rfl rfl rfl (Nat.le_of_ble_eq_true rfl) ?_
  refine tm_iload_1 1 rfl dX9_carryOut_0 ?_
  refine tm_look (off := 112) 113 (by decide +kernel) (by decide +kernel) rfl dX9_carryOut_1 ?_
  refine tm_aload_0 114 rfl dX9_carryOut_113 ?_
  refine tm_iload_2 115 rfl dX9_carryOut_114 ?_
  refine tm_iconst (0) rfl 116 rfl dX9_carryOut_115 ?_
  refine tm_callV_I (ci := 8) (c_X9_say hC hσ) mv_X9_say ml_X9_171 rfl rfl rfl rfl rfl (Nat.le_of_ble_eq_true rfl) 119 rfl dX9_carryOut_116 ?_
  exact tm_iret (by rw [cl_45]) (by rw [cl_45]) rfl dX9_carryOut_119

set_option maxRecDepth 100000 in
set_option maxHeartbeats 4000000 in
theorem c_X9_carryOut_119 {g : GC} {d : Nat} {M : MI} {L : ML} {σ : AS} (hC : hasC M σ) (hσ : okS σ) {f s : Int32} : CfI g (d + 4) yX9_carryOut cX9_carryOut 4 .int [rf g 0, .int (119), .int f, .int s] M L ((opCl σ 119 f s).1) (putC M (opCl σ 119 f s).2) (L) := by
  refine cfI_of (own := RX9) (l := [some (rf g 0), some (.int (119)), some (.int f), some (.int s)]) 0 rfl rfl rfl (Nat.le_of_ble_eq_true rfl) ?_
  refine tm_iload_1 1 rfl dX9_carryOut_0 ?_
  refine tm_look (off := 119) 120 (by decide +kernel) (by decide +kernel) rfl dX9_carryOut_1 ?_
  refine tm_aload_0 121 rfl dX9_carryOut_120 ?_
  refine tm_iload_2 122 rfl dX9_carryOut_121 ?_
  refine tm_iload_3 123 rfl dX9_carryOut_122 ?_
  refine tm_callV_I (ci := 8) (c_X9_weight hC hσ) mv_X9_weight ml_X9_174 rfl rfl rfl rfl rfl (Nat.le_of_ble_eq_true rfl) 126 rfl dX9_carryOut_123 ?_
  exact tm_iret (by rw [cl_119]) (by rw [cl_119]) rfl dX9_carryOut_126

set_option maxRecDepth 100000 in
set_option maxHeartbeats 4000000 in
theorem c_X9_carryOut_113 {g : GC} {d : Nat} {M : MI} {L : ML} {σ : AS} (hC : hasC M σ) (hσ : okS σ) {f s : Int32} : CfI g (d + 4) yX9_carryOut cX9_carryOut 4 .int [rf g 0, .int (113), .int f, .int s] M L ((opCl σ 113 f s).1) (putC M (opCl σ 113 f s).2) (L) := by
  refine cfI_of (own := RX9) (l := [some (rf g 0), some (.int (113)), some (.int f), some (.int s)]) 0 rfl rfl rfl (Nat.le_of_ble_eq_true rfl) ?_
  refine tm_iload_1 1 rfl dX9_carryOut_0 ?_
  refine tm_look (off := 126) 127 (by decide +kernel) (by decide +kernel) rfl dX9_carryOut_1 ?_
  refine tm_aload_0 128 rfl dX9_carryOut_127 ?_
  refine tm_iload_2 129 rfl dX9_carryOut_128 ?_
  refine tm_callV_I (ci := 8) (c_X9_quota hC hσ) mv_X9_quota ml_X9_177 rfl rfl rfl rfl rfl (Nat.le_of_ble_eq_true rfl) 132 rfl dX9_carryOut_129 ?_
  exact tm_iret (by rw [cl_113]) (by rw [cl_113]) rfl dX9_carryOut_132

set_option maxRecDepth 100000 in
set_option maxHeartbeats 4000000 in
theorem c_X9_carryOut_103 {g : GC} {d : Nat} {M : MI} {L : ML} {σ : AS} (hC : hasC M σ) (hσ : okS σ) {f s : Int32} : CfI g (d + 4) yX9_carryOut cX9_carryOut 4 .int [rf g 0, .int (103), .int f, .int s] M L ((opCl σ 103 f s).1) (putC M (opCl σ 103 f s).2) (L) := by
  refine cfI_of (own := RX9) (l := [some (rf g 0), some (.int (103)), some (.int f), some (.int s)]) 0 rfl rfl rfl (Nat.le_of_ble_eq_true rfl) ?_
  refine tm_iload_1 1 rfl dX9_carryOut_0 ?_
  refine tm_look (off := 132) 133 (by decide +kernel) (by decide +kernel) rfl dX9_carryOut_1 ?_
  refine tm_aload_0 134 rfl dX9_carryOut_133 ?_
  refine tm_callV_I (ci := 8) (c_X9_weigh hC hσ) mv_X9_weigh ml_X9_179 rfl rfl rfl rfl rfl (Nat.le_of_ble_eq_true rfl) 137 rfl dX9_carryOut_134 ?_
  exact tm_iret (by rw [cl_103]) (by rw [cl_103]) rfl dX9_carryOut_137

set_option maxRecDepth 100000 in
set_option maxHeartbeats 4000000 in
theorem c_X9_carryOut_100 {g : GC} {d : Nat} {M : MI} {L : ML} {σ : AS} (hC : hasC M σ) (hσ : okS σ) {f s : Int32} : CfI g (d + 4) yX9_carryOut cX9_carryOut 4 .int [rf g 0, .int (100), .int f, .int s] M L ((opCl σ 100 f s).1) (putC M (opCl σ 100 f s).2) (L) := by
  have hn := hC.1
  have h4 := hσ.2.1
  refine cfI_of (own := RX9) (l := [some (rf g 0), some (.int (100)), some (.int f), some (.int s)]) 0 rfl rfl rfl (Nat.le_of_ble_eq_true rfl) ?_
  refine tm_iload_1 1 rfl dX9_carryOut_0 ?_
  refine tm_look (off := 137) 138 (by decide +kernel) (by decide +kernel) rfl dX9_carryOut_1 ?_
  refine tm_aload_0 139 rfl dX9_carryOut_138 ?_
  refine tm_getr fl_X9_12 rfl rfl 142 rfl dX9_carryOut_139 ?_
  refine tm_aload_0 143 rfl dX9_carryOut_142 ?_
  refine tm_getr fl_X9_12 rfl rfl 146 rfl dX9_carryOut_143 ?_
  refine tm_geti fl_X9_67 rfl rfl 149 rfl dX9_carryOut_146 ?_
  rw [hn]
  refine tm_aload_0 150 rfl dX9_carryOut_149 ?_
  refine tm_getr fl_X9_12 rfl rfl 153 rfl dX9_carryOut_150 ?_
  refine tm_geti fl_X9_82 rfl rfl 156 rfl dX9_carryOut_153 ?_
  rw [hC.2.1]
  refine tm_callS_I (c_X0_dual (c := σ.2.1) h4 hσ.2.2.1) ms_X0_dual ml_X9_115 rfl rfl (Nat.le_of_ble_eq_true rfl) 159 rfl dX9_carryOut_156 ?_
  refine tm_callV_I (ci := 3) (c_X4_take hC) mv_X4_take ml_X9_112 rfl rfl rfl rfl rfl (Nat.le_of_ble_eq_true rfl) 162 rfl dX9_carryOut_159 ?_
  exact tm_iret (by rw [cl_100]; rfl) (by rw [cl_100]; rfl) rfl dX9_carryOut_162

set_option maxRecDepth 100000 in
set_option maxHeartbeats 4000000 in
theorem c_X9_carryOut_111 {g : GC} {d : Nat} {M : MI} {L : ML} {σ : AS} (hC : hasC M σ) (hσ : okS σ) {f s : Int32} : CfI g (d + 4) yX9_carryOut cX9_carryOut 4 .int [rf g 0, .int (111), .int f, .int s] M L ((opCl σ 111 f s).1) (putC M (opCl σ 111 f s).2) (L) := by
  have hn := hC.1
  have h4 := hσ.2.1
  refine cfI_of (own := RX9) (l := [some (rf g 0), some (.int (111)), some (.int f), some (.int s)]) 0 rfl rfl rfl (Nat.le_of_ble_eq_true rfl) ?_
  refine tm_iload_1 1 rfl dX9_carryOut_0 ?_
  refine tm_look (off := 162) 163 (by decide +kernel) (by decide +kernel) rfl dX9_carryOut_1 ?_
  refine tm_aload_0 164 rfl dX9_carryOut_163 ?_
  refine tm_getr fl_X9_12 rfl rfl 167 rfl dX9_carryOut_164 ?_
  refine tm_aload_0 168 rfl dX9_carryOut_167 ?_
  refine tm_getr fl_X9_12 rfl rfl 171 rfl dX9_carryOut_168 ?_
  refine tm_geti fl_X9_67 rfl rfl 174 rfl dX9_carryOut_171 ?_
  rw [hn]
  refine tm_aload_0 175 rfl dX9_carryOut_174 ?_
  refine tm_getr fl_X9_12 rfl rfl 178 rfl dX9_carryOut_175 ?_
  refine tm_geti fl_X9_82 rfl rfl 181 rfl dX9_carryOut_178 ?_
  rw [hC.2.1]
  refine tm_callS_I (c_X0_opposite (c := σ.2.1) h4 hσ.2.2.1) ms_X0_opposite ml_X9_118 rfl rfl (Nat.le_of_ble_eq_true rfl) 184 rfl dX9_carryOut_181 ?_
  refine tm_callV_I (ci := 3) (c_X4_take hC) mv_X4_take ml_X9_112 rfl rfl rfl rfl rfl (Nat.le_of_ble_eq_true rfl) 187 rfl dX9_carryOut_184 ?_
  exact tm_iret (by rw [cl_111]; rfl) (by rw [cl_111]; rfl) rfl dX9_carryOut_187

set_option maxRecDepth 100000 in
set_option maxHeartbeats 4000000 in
theorem c_X9_carryOut_116 {g : GC} {d : Nat} {M : MI} {L : ML} {σ : AS} (hC : hasC M σ) (hσ : okS σ) {f s : Int32} : CfI g (d + 4) yX9_carryOut cX9_carryOut 4 .int [rf g 0, .int (116), .int f, .int s] M L ((opCl σ 116 f s).1) (putC M (opCl σ 116 f s).2) (L) := by
  refine cfI_of (own := RX9) (l := [some (rf g 0), some (.int (116)), some (.int f), some (.int s)]) 0 rfl rfl rfl (Nat.le_of_ble_eq_true rfl) ?_
  refine tm_iload_1 1 rfl dX9_carryOut_0 ?_
  refine tm_look (off := 187) 188 (by decide +kernel) (by decide +kernel) rfl dX9_carryOut_1 ?_
  refine tm_aload_0 189 rfl dX9_carryOut_188 ?_
  refine tm_iload_2 190 rfl dX9_carryOut_189 ?_
  refine tm_callV_I (ci := 8) (c_X9_turn hC hσ) mv_X9_turn ml_X9_182 rfl rfl rfl rfl rfl (Nat.le_of_ble_eq_true rfl) 193 rfl dX9_carryOut_190 ?_
  exact tm_iret (by rw [cl_116]) (by rw [cl_116]) rfl dX9_carryOut_193

set_option maxRecDepth 100000 in
set_option maxHeartbeats 4000000 in
theorem c_X9_carryOut_120 {g : GC} {d : Nat} {M : MI} {L : ML} {σ : AS} (hC : hasC M σ) (hσ : okS σ) {f s : Int32} : CfI g (d + 4) yX9_carryOut cX9_carryOut 4 .int [rf g 0, .int (120), .int f, .int s] M L ((opCl σ 120 f s).1) (putC M (opCl σ 120 f s).2) (L) := by
  refine cfI_of (own := RX9) (l := [some (rf g 0), some (.int (120)), some (.int f), some (.int s)]) 0 rfl rfl rfl (Nat.le_of_ble_eq_true rfl) ?_
  refine tm_iload_1 1 rfl dX9_carryOut_0 ?_
  refine tm_look (off := 193) 194 (by decide +kernel) (by decide +kernel) rfl dX9_carryOut_1 ?_
  refine tm_aload_0 195 rfl dX9_carryOut_194 ?_
  refine tm_iload_2 196 rfl dX9_carryOut_195 ?_
  refine tm_iload_3 197 rfl dX9_carryOut_196 ?_
  refine tm_callV_I (ci := 8) (c_X9_exchange hC hσ) mv_X9_exchange ml_X9_185 rfl rfl rfl rfl rfl (Nat.le_of_ble_eq_true rfl) 200 rfl dX9_carryOut_197 ?_
  exact tm_iret (by rw [cl_120]) (by rw [cl_120]) rfl dX9_carryOut_200

set_option maxRecDepth 100000 in
set_option maxHeartbeats 4000000 in
theorem c_X9_carryOut_107 {g : GC} {d : Nat} {M : MI} {L : ML} {σ : AS} (hC : hasC M σ) (hσ : okS σ) {f s : Int32} : CfI g (d + 4) yX9_carryOut cX9_carryOut 4 .int [rf g 0, .int (107), .int f, .int s] M L ((opCl σ 107 f s).1) (putC M (opCl σ 107 f s).2) (L) := by
  refine cfI_of (own := RX9) (l := [some (rf g 0), some (.int (107)), some (.int f), some (.int s)]) 0 rfl rfl rfl (Nat.le_of_ble_eq_true rfl) ?_
  refine tm_iload_1 1 rfl dX9_carryOut_0 ?_
  refine tm_look (off := 200) 201 (by decide +kernel) (by decide +kernel) rfl dX9_carryOut_1 ?_
  refine tm_aload_0 202 rfl dX9_carryOut_201 ?_
  refine tm_callV_I (ci := 8) (c_X9_keep hC hσ) mv_X9_keep ml_X9_188 rfl rfl rfl rfl rfl (Nat.le_of_ble_eq_true rfl) 205 rfl dX9_carryOut_202 ?_
  exact tm_iret (by rw [cl_107]) (by rw [cl_107]) rfl dX9_carryOut_205

theorem c_X9_carryOut {g : GC} {d : Nat} {M : MI} {L : ML} {σ : AS} (hC : hasC M σ) (hσ : okS σ) {x f s : Int32} (hk : ¬ kd x = 0) : CfI g (d + 4) yX9_carryOut cX9_carryOut 4 .int [rf g 0, .int x, .int f, .int s] M L ((opCl σ x f s).1) (putC M (opCl σ x f s).2) L := by
  rcases kd_n hk with rfl | rfl | rfl | rfl | rfl | rfl | rfl | rfl | rfl | rfl | rfl
  · exact c_X9_carryOut_110 hC hσ
  · exact c_X9_carryOut_116 hC hσ
  · exact c_X9_carryOut_43 hC hσ
  · exact c_X9_carryOut_45 hC hσ
  · exact c_X9_carryOut_119 hC hσ
  · exact c_X9_carryOut_113 hC hσ
  · exact c_X9_carryOut_120 hC hσ
  · exact c_X9_carryOut_103 hC hσ
  · exact c_X9_carryOut_100 hC hσ
  · exact c_X9_carryOut_111 hC hσ
  · exact c_X9_carryOut_107 hC hσ
def fsP (t : Nat → Int32) (s k : Nat) : Int32 := fsK (kd (sg t s (pP t s k))) t s (pP t s k)
def scP (t : Nat → Int32) (s k : Nat) : Int32 := scK (kd (sg t s (pP t s k))) t s (pP t s k)
def rnS (t : Nat → Int32) (s : Nat) (σ : AS) : Nat → Nat × AS
  | 0 => (0, σ)
  | k + 1 => ((rnS t s σ k).1 + (if 0 ≤ (opCl (rnS t s σ k).2 (sg t s (pP t s k)) (fsP t s k) (scP t s k)).1 then 1 else 0), (opCl (rnS t s σ k).2 (sg t s (pP t s k)) (fsP t s k) (scP t s k)).2)
theorem rn_ok (t : Nat → Int32) (s : Nat) {σ : AS} (h : okS σ) : ∀ k, okS (rnS t s σ k).2
  | 0 => h
  | k + 1 => ok_cl (rn_ok t s h k) _ _ _
theorem rn_y {t : Nat → Int32} {s k : Nat} {σ : AS} (h : ¬ (opCl (rnS t s σ k).2 (sg t s (pP t s k)) (fsP t s k) (scP t s k)).1 < 0) : (rnS t s σ (k + 1)).1 = (rnS t s σ k).1 + 1 := by
  show _ + (if _ then 1 else 0) = _
  rw [if_pos (fa_of_nlt h)]
theorem rn_n {t : Nat → Int32} {s k : Nat} {σ : AS} (h : (opCl (rnS t s σ k).2 (sg t s (pP t s k)) (fsP t s k) (scP t s k)).1 < 0) : (rnS t s σ (k + 1)).1 = (rnS t s σ k).1 := by
  show _ + (if _ then 1 else 0) = _
  rw [if_neg (fa_of_lt h).2.1]
  rfl
def ansRd (t : Nat → Int32) (s : Nat) (σ : AS) : Int32 × AS := if bdR t s = true then (-10 - nI (clE t s (pP t s (fj t s))), σ) else (nI (rnS t s σ (fj t s + 1)).1, (rnS t s σ (fj t s + 1)).2)
theorem rd_y {t : Nat → Int32} {s : Nat} {σ : AS} (h : bdR t s = true) : ansRd t s σ = (-10 - nI (clE t s (pP t s (fj t s))), σ) := if_pos h
theorem rd_n {t : Nat → Int32} {s : Nat} {σ : AS} (h : bdR t s = false) : ansRd t s σ = (nI (rnS t s σ (fj t s + 1)).1, (rnS t s σ (fj t s + 1)).2) := if_neg (by rw [h]; decide)
theorem ok_rd {t : Nat → Int32} {s : Nat} {σ : AS} (h : okS σ) : okS (ansRd t s σ).2 := by
  cases q : bdR t s
  · rw [rd_n q]; exact rn_ok t s h _
  · rw [rd_y q]; exact h
theorem pr_y {t : Nat → Int32} {s : Nat} {M M' : MI} {r : Int32} (h : prQ t s M r M') (hr : r = -1) : bdR t s = false ∧ M' 23 6 = nI (fj t s + 1) ∧ ∀ j, j < fj t s + 1 → rwQ t s M' j := by
  rcases h.2 with ⟨-, q⟩ | ⟨a, -, b, c⟩
  · exfalso
    have hb := clE_b t s (fj t s)
    have hf := fj_lt t s
    rw [q, show (-1 : Int32) = nI 4294967295 from rfl] at hr
    have e := congrArg Int32.toInt hr
    rw [nI_toInt (by omega), show (nI 4294967295).toInt = -1 from rfl] at e
    omega
  · exact ⟨a, b, c⟩
theorem pr_n {t : Nat → Int32} {s : Nat} {M M' : MI} {r : Int32} (h : prQ t s M r M') (hr : ¬ r = -1) : bdR t s = true ∧ r = nI (clE t s (pP t s (fj t s))) := by
  rcases h.2 with q | ⟨-, q, -⟩
  · exact q
  · exact absurd q hr
theorem cl_ok {t : Nat → Int32} {s j : Nat} (h : bdR t s = false) (hj : j < fj t s + 1) : clO t s (pP t s j) = true := by
  rcases Nat.lt_succ_iff_lt_or_eq.mp hj with z | z
  · have := fa_first_no (stp t s) 12 j z
    unfold stp at this
    cases q : clO t s (pP t s j)
    · rw [q] at this; simp at this
    · rfl
  · rw [z]
    unfold bdR at h
    cases q : clO t s (pP t s (fj t s))
    · rw [q] at h; simp at h
    · rfl
theorem cl_kd {t : Nat → Int32} {s p : Nat} (h : clO t s p = true) : ¬ kd (sg t s p) = 0 := fun q => by
  unfold clO at h
  rw [q] at h
  cases h
def frR (M M' : MI) : Prop := ∀ i k, ¬ ((i = 23 ∧ (k = 1 ∨ k = 2 ∨ k = 6)) ∨ (25 ≤ i ∧ i ≤ 27)) → M' i k = M i k
theorem frR.P {M M1 : MI} (h : frP M M1) (x : Int32) : frR M (s1 M1 23 1 x) := fun i k q => by
  rw [s1_at, if_neg (fun z => q (by omega))]
  exact h i k (fun z => q (by omega))
set_option maxRecDepth 100000 in
set_option maxHeartbeats 4000000 in
theorem c_X9_read {g : GC} {d : Nat} {M : MI} {L : ML} {σ : AS} (hC : hasC M σ) (hσ : okS σ) {s : Nat} {t : Nat → Int32} (hs : M 23 1 = nI s) (h1 : s ≤ 100) (ht : ∀ i, i < s → M 24 i = t i) : CrI g (d + 5) yX9_read cX9_read 4 .int [rf g 0] M L (fun r M' L' => L' = L ∧ r = (ansRd t s σ).1 ∧ ∃ M1, frR M M1 ∧ M1 23 1 = 0 ∧ M' = putC M1 (ansRd t s σ).2) := by
  have hf12 := fj_lt t s
  refine crI_of (own := RX9) (l := [some (rf g 0), none, none, none]) 3 rfl rfl rfl (Nat.le_of_ble_eq_true rfl) ?_
  refine tm_aload_0 1 rfl dX9_read_0 ?_
  refine tm_getr fl_X9_28 rfl rfl 4 rfl dX9_read_1 ?_
  refine tm_callVr_I (ci := 4) (c_X5_parse hs h1 ht) mv_X5_parse ml_X9_150 rfl rfl rfl rfl rfl (Nat.le_of_ble_eq_true rfl) 7 rfl dX9_read_4 (fun r M1 L1 hQ => ?_)
  obtain ⟨hL1, hQ⟩ := hQ
  have hL1 := hL1.symm
  subst hL1
  have hC2 : hasC (s1 M1 23 1 0) σ := hC.fr (fun i k hi => by rw [s1_ne (by omega)]; exact hQ.1 i k (by omega))
  refine tm_istore_1 (by decide) rfl 8 rfl dX9_read_7 ?_
  refine tm_aload_0 9 rfl dX9_read_8 ?_
  refine tm_getr fl_X9_28 rfl rfl 12 rfl dX9_read_9 ?_
  refine tm_iconst (0) rfl 13 rfl dX9_read_12 ?_
  refine tm_puti fl_X9_147 fw_4_1 rfl rfl rfl rfl 16 rfl dX9_read_13 ?_
  refine tm_iload_1 17 rfl dX9_read_16 ?_
  refine tm_iconst (-1) rfl 18 rfl dX9_read_17 ?_
  refine tm_icmp_eq 26 21 rfl rfl dX9_read_18 (fun h18 => ?_) (fun h18 => ?_)
  · have hY := pr_y hQ (by first | exact h18 | exact Classical.byContradiction h18)
    refine tm_iconst (0) rfl 27 rfl dX9_read_26 ?_
    refine tm_istore_2 (by decide) rfl 28 rfl dX9_read_27 ?_
    refine tm_iconst (0) rfl 29 rfl dX9_read_28 ?_
    refine tm_istore_3 (by decide) rfl 30 rfl dX9_read_29 ?_
    refine tm_mem (M := putC (s1 M1 23 1 0) (rnS t s σ 0).2) (putC_self hC2) rfl ?_
    refine tm_loop (N := fj t s + 1) (fun k => Tm g (d + 5) RX9 cX9_read 4 (some .int) (QIr g (fun r M' L' => L' = L ∧ r = (ansRd t s σ).1 ∧ ∃ M1, frR M M1 ∧ M1 23 1 = 0 ∧ M' = putC M1 (ansRd t s σ).2)) 30 [some (rf g 0), some (.int r), some (.int (nI (rnS t s σ k).1)), some (.int (nI k))] [] (putC (s1 M1 23 1 0) (rnS t s σ k).2) (L)) (fun k hk ih => ?_) ?_
    · refine tm_iload_3 31 rfl dX9_read_30 ?_
      refine tm_aload_0 32 rfl dX9_read_31 ?_
      refine tm_getr fl_X9_28 rfl rfl 35 rfl dX9_read_32 ?_
      refine tm_geti fl_X9_153 rfl rfl 38 rfl dX9_read_35 ?_
      rw [putC_ne (by decide) (by decide), s1_nk (by decide), hY.2.1]
      refine tm_icmp_ge_f 41 (nI_ge hk (by omega)) rfl rfl dX9_read_38 ?_
      refine tm_aload_0 42 rfl dX9_read_41 ?_
      refine tm_aload_0 43 rfl dX9_read_42 ?_
      refine tm_getr fl_X9_28 rfl rfl 46 rfl dX9_read_43 ?_
      refine tm_getr fl_X9_156 rfl rfl 49 rfl dX9_read_46 ?_
      refine tm_iload_3 50 rfl dX9_read_49 ?_
      refine tm_ald rfl (ix := k) (ix_nI (by omega) (by decide)) 51 rfl dX9_read_50 ?_
      rw [putC_ne (by decide) (by decide), s1_ne (by decide), (hY.2.2 k hk).1]
      refine tm_aload_0 52 rfl dX9_read_51 ?_
      refine tm_getr fl_X9_28 rfl rfl 55 rfl dX9_read_52 ?_
      refine tm_getr fl_X9_159 rfl rfl 58 rfl dX9_read_55 ?_
      refine tm_iload_3 59 rfl dX9_read_58 ?_
      refine tm_ald rfl (ix := k) (ix_nI (by omega) (by decide)) 60 rfl dX9_read_59 ?_
      refine tm_aload_0 61 rfl dX9_read_60 ?_
      refine tm_getr fl_X9_28 rfl rfl 64 rfl dX9_read_61 ?_
      refine tm_getr fl_X9_162 rfl rfl 67 rfl dX9_read_64 ?_
      refine tm_iload_3 68 rfl dX9_read_67 ?_
      refine tm_ald rfl (ix := k) (ix_nI (by omega) (by decide)) 69 rfl dX9_read_68 ?_
      have hcl : opCl (rnS t s σ k).2 (sg t s (pP t s k)) (putC (s1 M1 23 1 0) (rnS t s σ k).2 26 k) (putC (s1 M1 23 1 0) (rnS t s σ k).2 27 k) = opCl (rnS t s σ k).2 (sg t s (pP t s k)) (fsP t s k) (scP t s k) := cl_irr (cl_kd (cl_ok hY.1 hk)) (fun z => (by rw [putC_ne (by decide) (by decide), s1_ne (by decide)]; exact (hY.2.2 k hk).2.1 z)) (fun z => (by rw [putC_ne (by decide) (by decide), s1_ne (by decide)]; exact (hY.2.2 k hk).2.2 z))
      refine tm_callV_I (ci := 8) (c_X9_carryOut (x := sg t s (pP t s k)) (hasC_put _ _) (rn_ok t s hσ k) (cl_kd (cl_ok hY.1 hk))) mv_X9_carryOut ml_X9_165 rfl rfl rfl rfl rfl (Nat.le_of_ble_eq_true rfl) 72 rfl dX9_read_69 ?_
      rw [hcl, putC_put]
      refine tm_if_lt 78 75 rfl rfl dX9_read_72 (fun h72 => ?_) (fun h72 => ?_)
      · refine tm_iinc_3 (nI (k + 1)) (iinc1 k) (by decide) rfl 81 rfl dX9_read_78 ?_
        refine tm_goto 30 rfl dX9_read_81 ?_
        first | exact (by rw [show (rnS t s σ (k + 1)).1 = (rnS t s σ k).1 from rn_n h72] at ih; exact ih) | exact (by rw [show (rnS t s σ (k + 1)).1 = (rnS t s σ k).1 + 1 from rn_y h72] at ih; exact ih)
      · refine tm_iinc_2 (nI ((rnS t s σ k).1 + 1)) (iinc1 _) (by decide) rfl 78 rfl dX9_read_75 ?_
        refine tm_iinc_3 (nI (k + 1)) (iinc1 k) (by decide) rfl 81 rfl dX9_read_78 ?_
        refine tm_goto 30 rfl dX9_read_81 ?_
        first | exact (by rw [show (rnS t s σ (k + 1)).1 = (rnS t s σ k).1 from rn_n h72] at ih; exact ih) | exact (by rw [show (rnS t s σ (k + 1)).1 = (rnS t s σ k).1 + 1 from rn_y h72] at ih; exact ih)
    · refine tm_iload_3 31 rfl dX9_read_30 ?_
      refine tm_aload_0 32 rfl dX9_read_31 ?_
      refine tm_getr fl_X9_28 rfl rfl 35 rfl dX9_read_32 ?_
      refine tm_geti fl_X9_153 rfl rfl 38 rfl dX9_read_35 ?_
      rw [putC_ne (by decide) (by decide), s1_nk (by decide), hY.2.1]
      refine tm_icmp_ge_t 84 (nI_le (Nat.le_refl _) (by omega)) rfl dX9_read_38 ?_
      refine tm_iload_2 85 rfl dX9_read_84 ?_
      exact tm_iretR ⟨rfl, by rw [rd_n hY.1], s1 M1 23 1 0, frR.P hQ.1 0, s1_eq _ _ _ _, by rw [rd_n hY.1]⟩ dX9_read_85
  · have hN := pr_n hQ h18
    refine tm_bipush (-10) (by decide) 23 rfl dX9_read_21 ?_
    refine tm_iload_1 24 rfl dX9_read_23 ?_
    rw [hN.2]
    refine tm_isub 25 rfl dX9_read_24 ?_
    exact tm_iretR ⟨rfl, by rw [rd_y hN.1], s1 M1 23 1 0, frR.P hQ.1 0, s1_eq _ _ _ _, by rw [rd_y hN.1]; exact (putC_self hC2).symm⟩ dX9_read_25


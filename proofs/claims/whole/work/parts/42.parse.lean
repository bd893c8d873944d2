/-! every core that calls come to is a good one -/
theorem ok_c {σ : AS} (h : okS σ) {c : Nat} (hc : c < 2 ^ 2 ^ σ.1) : okS (σ.1, c, σ.2.2) := ⟨h.1, h.2.1, hc, h.2.2.2⟩
theorem bF {b : Bool} (h : ¬ b = false) : b = true := by cases b; exact absurd rfl h; rfl
theorem ok_vot {σ : AS} (h : okS σ) (x : Int32) : okS (opVot σ x).2 := by
  unfold opVot
  by_cases q : decide (2 ≤ x.toInt ∧ x.toInt ≤ 4) = true
  · rw [if_pos q]
    have q2 := of_decide_eq_true q
    have e : 2 ≤ iN x ∧ iN x ≤ 4 := by unfold iN; omega
    exact ⟨e.1, e.2, Nat.two_pow_pos _, Nat.two_pow_pos _, fun _ => show -9 ≤ (0 : Int32).toInt ∧ (0 : Int32).toInt ≤ 9 by decide, fun _ _ => rfl, show -40 ≤ (1 : Int32).toInt by decide, show (1 : Int32).toInt ≤ 40 by decide⟩
  · rw [if_neg q]; exact h
theorem ok_say {σ : AS} (h : okS σ) (x y : Int32) : okS (opSay σ x y).2 := by
  unfold opSay
  by_cases q : inN x (2 ^ σ.1) = false
  · rw [if_pos q]; exact h
  · rw [if_neg q]
    by_cases q2 : inN y 2 = false
    · rw [if_pos q2]; exact h
    · rw [if_neg q2]; exact ok_c h (bits_lt _ _)
theorem ok_code {σ : AS} (h : okS σ) (x : Int32) : okS (opCode σ x).2 := by
  unfold opCode
  by_cases q : inN x (2 ^ 2 ^ σ.1) = false
  · rw [if_pos q]; exact h
  · rw [if_neg q]
    have q2 := inN_of (bF q)
    obtain ⟨k, hk, rfl⟩ := q2
    have h1 : 2 ^ 2 ^ σ.1 ≤ 65536 := pow16 (pow4 h.2.1)
    exact ok_c h (by rw [iN_nI (by omega)]; exact hk)
theorem ok_wgt {σ : AS} (h : okS σ) (v x : Int32) : okS (opWgt σ v x).2 := by
  unfold opWgt
  by_cases q : inN v σ.1 = false
  · rw [if_pos q]; exact h
  · rw [if_neg q]
    by_cases q2 : decide (-9 ≤ x.toInt ∧ x.toInt ≤ 9) = false
    · rw [if_pos q2]; exact h
    · rw [if_neg q2]
      have hx := of_decide_eq_true (bF q2)
      obtain ⟨k, hk, rfl⟩ := inN_of (bF q)
      have hn := h.2.1
      have e : iN (nI k) = k := iN_nI (by omega)
      refine ⟨h.1, h.2.1, h.2.2.1, h.2.2.2.1, fun u => ?_, fun u hu => ?_, h.2.2.2.2.2.2⟩
      · show -9 ≤ (upd σ.2.2.2.1 (iN (nI k)) x u).toInt ∧ (upd σ.2.2.2.1 (iN (nI k)) x u).toInt ≤ 9
        by_cases c : u = iN (nI k)
        · subst c; rw [upd_eq]; exact hx
        · rw [upd_ne c]; exact h.2.2.2.2.1 u
      · have hu' : σ.1 ≤ u := hu
        show upd σ.2.2.2.1 (iN (nI k)) x u = 0
        rw [e, upd_ne (by omega)]; exact h.2.2.2.2.2.1 u hu'
theorem ok_quo {σ : AS} (h : okS σ) (x : Int32) : okS (opQuo σ x).2 := by
  unfold opQuo
  by_cases q : decide (-40 ≤ x.toInt ∧ x.toInt ≤ 40) = false
  · rw [if_pos q]; exact h
  · rw [if_neg q]
    have hx := of_decide_eq_true (bF q)
    exact ⟨h.1, h.2.1, h.2.2.1, h.2.2.2.1, h.2.2.2.2.1, h.2.2.2.2.2.1, hx⟩
theorem ok_wei {σ : AS} (h : okS σ) : okS (opWei σ).2 := ok_c h (bits_lt _ _)
theorem ok_dua {σ : AS} (h : okS σ) : okS (opDua σ).2 := ok_c h (bits_lt _ _)
theorem ok_opp {σ : AS} (h : okS σ) : okS (opOpp σ).2 := ok_c h (bits_lt _ _)
theorem ok_trn {σ : AS} (h : okS σ) (v : Int32) : okS (opTrn σ v).2 := by
  unfold opTrn
  by_cases q : inN v σ.1 = false
  · rw [if_pos q]; exact h
  · rw [if_neg q]; exact ok_c h (bits_lt _ _)
theorem ok_exc {σ : AS} (h : okS σ) (i j : Int32) : okS (opExc σ i j).2 := by
  unfold opExc
  by_cases q : inN i σ.1 = false ∨ inN j σ.1 = false ∨ i = j
  · rw [if_pos q]; exact h
  · rw [if_neg q]; exact ok_c h (bits_lt _ _)
theorem ok_keep {σ : AS} (h : okS σ) : okS (opKeep σ).2 := ⟨h.1, h.2.1, h.2.2.1, h.2.2.1, h.2.2.2.2⟩
theorem lq_b {n c j : Nat} (h4 : n ≤ 4) (hc : c < 2 ^ 2 ^ n) : -40 ≤ (lqN n c j).toInt ∧ (lqN n c j).toInt ≤ 40 := by
  have hw : ∀ k, k < 2 ^ n → -36 ≤ (wth (fun u => zI (dg j u)) k n).toInt ∧ (wth (fun u => zI (dg j u)) k n).toInt ≤ 36 := fun k hk => by
    have a := wt_j (j := j) (f := fun u => zI (dg j u)) h4 hk (fun u _ => rfl)
    rw [← a.1]; exact a.2
  unfold lqN
  by_cases q : c = 0
  · rw [if_pos q]
    obtain ⟨a, b, e⟩ := gtF_spec (fun _ => true) (fun k => wth (fun u => zI (dg j u)) k n) (-99) (2 ^ n)
    have a0 := a 0 (Nat.two_pow_pos n) rfl
    have w0 := hw 0 (Nat.two_pow_pos n)
    have h36 : (gtF (fun _ => true) (fun k => wth (fun u => zI (dg j u)) k n) (-99) (2 ^ n)).toInt ≤ 36 := by
      rcases e with e | ⟨k, hk, -, e⟩
      · rw [e] at a0 ⊢; decide
      · rw [e]; exact (hw k hk).2
    rw [fb_addI (by rw [show (1 : Int32).toInt = 1 from rfl]; omega) (by rw [show (1 : Int32).toInt = 1 from rfl]; omega), show (1 : Int32).toInt = 1 from rfl]
    omega
  · rw [if_neg q]
    obtain ⟨a, b, e⟩ := lsF_spec c.testBit (fun k => wth (fun u => zI (dg j u)) k n) 99 (2 ^ n)
    rcases e with e | ⟨k, hk, -, e⟩
    · exfalso
      obtain ⟨k, hkn, hk⟩ := ne0_yes hc q
      have := a k hkn hk
      have w := hw k hkn
      rw [e, show (99 : Int32).toInt = 99 from rfl] at this
      omega
    · rw [e]
      have := hw k hk
      omega
theorem ok_lst {σ : AS} (h : okS σ) : okS (opLst σ).2 := by
  cases q : LR σ.1 σ.2.1 with
  | none => rw [lst_n q]; exact h
  | some j =>
    rw [lst_s q]
    refine ⟨h.1, h.2.1, h.2.2.1, h.2.2.2.1, fun v => ?_, fun v hv => ?_, lq_b h.2.1 h.2.2.1⟩
    · show -9 ≤ (if v < 4 then zI (dg j v) else 0 : Int32).toInt ∧ (if v < 4 then zI (dg j v) else 0 : Int32).toInt ≤ 9
      by_cases c : v < 4
      · rw [if_pos c, zI_dg]
        have := dg_rng j v
        omega
      · rw [if_neg c]; decide
    · show (if v < 4 then zI (dg j v) else 0 : Int32) = 0
      by_cases c : v < 4
      · rw [if_pos c, (LR_dg q).1 v c hv]; rfl
      · rw [if_neg c]
/-! a clause is a call -/
def opCl (σ : AS) (x f s : Int32) : Int32 × AS := if x = 110 then opVot σ f else if x = 43 then opSay σ f 1 else if x = 45 then opSay σ f 0 else if x = 119 then opWgt σ f s else if x = 113 then opQuo σ f else if x = 103 then opWei σ else if x = 100 then opDua σ else if x = 111 then opOpp σ else if x = 116 then opTrn σ f else if x = 120 then opExc σ f s else opKeep σ
theorem ok_cl {σ : AS} (h : okS σ) (x f s : Int32) : okS (opCl σ x f s).2 := by
  unfold opCl
  by_cases h1 : x = 110
  · rw [if_pos h1]; exact ok_vot h f
  rw [if_neg h1]
  by_cases h2 : x = 43
  · rw [if_pos h2]; exact ok_say h f 1
  rw [if_neg h2]
  by_cases h3 : x = 45
  · rw [if_pos h3]; exact ok_say h f 0
  rw [if_neg h3]
  by_cases h4 : x = 119
  · rw [if_pos h4]; exact ok_wgt h f s
  rw [if_neg h4]
  by_cases h5 : x = 113
  · rw [if_pos h5]; exact ok_quo h f
  rw [if_neg h5]
  by_cases h6 : x = 103
  · rw [if_pos h6]; exact ok_wei h
  rw [if_neg h6]
  by_cases h7 : x = 100
  · rw [if_pos h7]; exact ok_dua h
  rw [if_neg h7]
  by_cases h8 : x = 111
  · rw [if_pos h8]; exact ok_opp h
  rw [if_neg h8]
  by_cases h9 : x = 116
  · rw [if_pos h9]; exact ok_trn h f
  rw [if_neg h9]
  by_cases h10 : x = 120
  · rw [if_pos h10]; exact ok_exc h f s
  rw [if_neg h10]; exact ok_keep h
def clE (t : Nat → Int32) (s p : Nat) : Nat := enK (kd (sg t s p)) t s p
def clO (t : Nat → Int32) (s p : Nat) : Bool := okK (kd (sg t s p)) t s p
def pP (t : Nat → Int32) (s : Nat) : Nat → Nat
  | 0 => 0
  | k + 1 => clE t s (pP t s k) + 1
theorem pP_b (t : Nat → Int32) (s : Nat) : ∀ k, pP t s k ≤ 6 * k
  | 0 => Nat.le_refl _
  | k + 1 => by
    have := pP_b t s k
    have h := enK_b (kd (sg t s (pP t s k))) t s (pP t s k)
    unfold pP clE
    omega
theorem clE_b (t : Nat → Int32) (s k : Nat) : clE t s (pP t s k) ≤ 6 * k + 5 := by
  have := pP_b t s k
  have h := enK_b (kd (sg t s (pP t s k))) t s (pP t s k)
  unfold clE
  omega
def stp (t : Nat → Int32) (s j : Nat) : Bool := !(clO t s (pP t s j) && decide (sg t s (clE t s (pP t s j)) = 59) && decide (j < 11))
def fj (t : Nat → Int32) (s : Nat) : Nat := fa_first (stp t s) 12
def bdR (t : Nat → Int32) (s : Nat) : Bool := !(clO t s (pP t s (fj t s)) && decide (sg t s (clE t s (pP t s (fj t s))) = -1))
theorem stp_11 {t : Nat → Int32} {s : Nat} (h : ∀ j, j < 12 → stp t s j = false) : False := by
  have := h 11 (by decide)
  unfold stp at this
  simp at this
theorem fj_eq {t : Nat → Int32} {s k : Nat} (hk : k < 12) (h : stp t s k = true) (h2 : ∀ j, j < k → stp t s j = false) : fj t s = k := first_eq hk h h2
theorem fj_lt (t : Nat → Int32) (s : Nat) : fj t s < 12 := by
  have a := fa_first_le (stp t s) 12
  rcases Nat.lt_or_ge (fa_first (stp t s) 12) 12 with h | h
  · exact h
  · exact absurd (fun j hj => fa_first_no (stp t s) 12 j (by omega)) stp_11
def rwQ (t : Nat → Int32) (s : Nat) (M : MI) (j : Nat) : Prop := M 25 j = sg t s (pP t s j) ∧ (1 ≤ kd (sg t s (pP t s j)) ∧ kd (sg t s (pP t s j)) ≤ 5 → M 26 j = fsK (kd (sg t s (pP t s j))) t s (pP t s j)) ∧ (kd (sg t s (pP t s j)) = 3 ∨ kd (sg t s (pP t s j)) = 5 → M 27 j = scK (kd (sg t s (pP t s j))) t s (pP t s j))
def frP (M M' : MI) : Prop := ∀ i k, ¬ ((i = 23 ∧ (k = 2 ∨ k = 6)) ∨ (25 ≤ i ∧ i ≤ 27)) → M' i k = M i k
theorem frP.rf {M : MI} : frP M M := fun _ _ _ => rfl
theorem frP.tr {M M1 M2 : MI} (h : frP M M1) (h2 : frP M1 M2) : frP M M2 := fun i k q => (h2 i k q).trans (h i k q)
theorem frP.T {c : Nat} {M M' : MI} (h : frT c M M') : frP M M' := fun i k q => h i k (fun z => q (by omega))
theorem frP.s1 {M M' : MI} (h : frP M M') {i k : Nat} (hi : (i = 23 ∧ (k = 2 ∨ k = 6)) ∨ (25 ≤ i ∧ i ≤ 27)) (x : Int32) : frP M (s1 M' i k x) := fun j u q => by
  rw [s1_at, if_neg (fun z => q (by rw [z.1, z.2]; exact hi))]
  exact h j u q
def pcI (t : Nat → Int32) (s : Nat) (M Mx : MI) (k : Nat) : Prop := txC Mx s t (pP t s k) ∧ Mx 23 6 = nI k ∧ (∀ j, j < k → stp t s j = false) ∧ (∀ j, j < k → rwQ t s Mx j) ∧ frP M Mx
def prQ (t : Nat → Int32) (s : Nat) (M : MI) (r : Int32) (M' : MI) : Prop := frP M M' ∧ ((bdR t s = true ∧ r = nI (clE t s (pP t s (fj t s)))) ∨ (bdR t s = false ∧ r = -1 ∧ M' 23 6 = nI (fj t s + 1) ∧ ∀ j, j < fj t s + 1 → rwQ t s M' j))
theorem txC.T {M M1 : MI} {s p p2 c : Nat} {t : Nat → Int32} (h : txC M s t p) (f : frT c M M1) (e : M1 23 2 = nI p2) (hb : p2 ≤ 1000) : txC M1 s t p2 := ⟨by rw [f 23 1 (by omega)]; exact h.1, h.2.1, fun i hi => by rw [f 24 i (by omega)]; exact h.2.2.1 i hi, e, hb⟩
theorem rw_T {t : Nat → Int32} {s k j : Nat} {M M1 : MI} (h : rwQ t s M j) (hj : j < k) (f : frT k M M1) : rwQ t s M1 j := by
  unfold rwQ at *
  rw [f 25 j (by omega), f 26 j (by omega), f 27 j (by omega)]
  exact h
theorem rw_s {t : Nat → Int32} {s j i k : Nat} {x : Int32} {M : MI} (h : rwQ t s M j) (hi : i = 23) : rwQ t s (s1 M i k x) j := by
  subst hi
  unfold rwQ at *
  rw [s1_ne (by decide), s1_ne (by decide), s1_ne (by decide)]
  exact h
theorem pc_0 {t : Nat → Int32} {s : Nat} {M : MI} (hs : M 23 1 = nI s) (h1 : s ≤ 100) (ht : ∀ i, i < s → M 24 i = t i) : pcI t s M (s1 (s1 M 23 2 0) 23 6 0) 0 := ⟨⟨by rw [s1_nk (by decide), s1_nk (by decide)]; exact hs, h1, fun i hi => by rw [s1_ne (by decide), s1_ne (by decide)]; exact ht i hi, by rw [s1_nk (by decide), s1_eq]; rfl, Nat.zero_le _⟩, by rw [s1_eq]; rfl, fun j hj => absurd hj (Nat.not_lt_zero j), fun j hj => absurd hj (Nat.not_lt_zero j), (frP.rf.s1 (by decide) _).s1 (by decide) _⟩
/-- behind a clause that is taken, with its number counted -/
theorem pc_n {t : Nat → Int32} {s k : Nat} {M Mx M1 : MI} (hI : pcI t s M Mx k) (hk : k < 12) (hc : clO t s (pP t s k) = true) (hq : clQ (kd (sg t s (pP t s k))) t s (pP t s k) k Mx 1 M1) : txC (s1 M1 23 6 (nI (k + 1))) s t (clE t s (pP t s k)) ∧ (∀ j, j < k + 1 → rwQ t s (s1 M1 23 6 (nI (k + 1))) j) ∧ frP M (s1 M1 23 6 (nI (k + 1))) := by
  obtain ⟨hT, h6, hst, hrw, hf⟩ := hI
  obtain ⟨-, q2, q3, q4, q5⟩ := hq
  have hb := clE_b t s k
  have hT1 : txC M1 s t (clE t s (pP t s k)) := hT.T q5 q2 (by omega)
  refine ⟨⟨by rw [s1_nk (by decide)]; exact hT1.1, hT1.2.1, fun i hi => by rw [s1_ne (by decide)]; exact hT1.2.2.1 i hi, by rw [s1_nk (by decide)]; exact hT1.2.2.2.1, by omega⟩, fun j hj => rw_s ?_ rfl, (hf.tr (frP.T q5)).s1 (by decide) _⟩
  rcases Nat.lt_succ_iff_lt_or_eq.mp hj with z | z
  · exact rw_T (hrw j z) z q5
  · subst z
    exact ⟨q3, (q4 hc).1, (q4 hc).2⟩
theorem pc_s {t : Nat → Int32} {s k : Nat} {M M2 : MI} (h1 : txC M2 s t (clE t s (pP t s k))) (h6 : M2 23 6 = nI (k + 1)) (hst : ∀ j, j < k → stp t s j = false) (hk : stp t s k = false) (hk2 : k < 12) (hrw : ∀ j, j < k + 1 → rwQ t s M2 j) (hf : frP M M2) : pcI t s M (s1 M2 23 2 (nI (clE t s (pP t s k) + 1))) (k + 1) := by
  have hb := clE_b t s k
  refine ⟨h1.pl (p2 := clE t s (pP t s k) + 1) (by omega), by rw [s1_nk (by decide)]; exact h6, fun j hj => ?_, fun j hj => rw_s (hrw j hj) rfl, hf.s1 (by decide) _⟩
  rcases Nat.lt_succ_iff_lt_or_eq.mp hj with z | z
  · exact hst j z
  · subst z; exact hk
theorem sp_no {t : Nat → Int32} {s k : Nat} (h : clO t s (pP t s k) = false) : stp t s k = true := by unfold stp; rw [h]; rfl
theorem st_n59 {t : Nat → Int32} {s k : Nat} (h : ¬ sg t s (clE t s (pP t s k)) = 59) : stp t s k = true := by unfold stp; rw [decide_eq_false h]; simp
theorem st_11 {t : Nat → Int32} {s k : Nat} (h : ¬ k < 11) : stp t s k = true := by unfold stp; rw [decide_eq_false h]; simp
theorem st_y {t : Nat → Int32} {s k : Nat} (h : clO t s (pP t s k) = true) (h2 : sg t s (clE t s (pP t s k)) = 59) (h3 : k < 11) : stp t s k = false := by unfold stp; rw [h, decide_eq_true h2, decide_eq_true h3]; rfl
theorem bd_no {t : Nat → Int32} {s k : Nat} (e : fj t s = k) (h : clO t s (pP t s k) = false) : bdR t s = true := by unfold bdR; rw [e, h]; rfl
theorem bd_n {t : Nat → Int32} {s k : Nat} (e : fj t s = k) (h : ¬ sg t s (clE t s (pP t s k)) = -1) : bdR t s = true := by unfold bdR; rw [e, decide_eq_false h]; simp
theorem bd_y {t : Nat → Int32} {s k : Nat} (e : fj t s = k) (h : clO t s (pP t s k) = true) (h2 : sg t s (clE t s (pP t s k)) = -1) : bdR t s = false := by unfold bdR; rw [e, h, decide_eq_true h2]; rfl
theorem bI_y {b : Bool} (h : bI b = 1) : b = true := by cases b; exact absurd h (by decide); rfl
theorem bI_n {b : Bool} (h : bI b = 0) : b = false := by cases b; rfl; exact absurd h (by decide)
theorem pr_f {t : Nat → Int32} {s k : Nat} {M M1 : MI} {r : Int32} (e : fj t s = k) (hb : bdR t s = true) (hf : frP M M1) (hr : r = nI (clE t s (pP t s k))) : prQ t s M r M1 := ⟨hf, Or.inl ⟨hb, by rw [e]; exact hr⟩⟩
set_option maxRecDepth 100000 in
set_option maxHeartbeats 4000000 in
theorem c_X5_parse {g : GC} {d : Nat} {M : MI} {L : ML} {s : Nat} {t : Nat → Int32} (hs : M 23 1 = nI s) (h1 : s ≤ 100) (ht : ∀ i, i < s → M 24 i = t i) : CrI g (d + 4) yX5_parse cX5_parse 2 .int [rf g 23] M L (fun r M' L' => L' = L ∧ prQ t s M r M') := by
  refine crI_of (own := RX5) (l := [some (rf g 23), none]) 1 rfl rfl rfl (Nat.le_of_ble_eq_true rfl) ?_
  refine tm_aload_0 1 rfl dX5_parse_0 ?_
  refine tm_iconst (0) rfl 2 rfl dX5_parse_1 ?_
  refine tm_puti fl_X5_17 fw_4_2 rfl rfl rfl rfl 5 rfl dX5_parse_2 ?_
  refine tm_aload_0 6 rfl dX5_parse_5 ?_
  refine tm_iconst (0) rfl 7 rfl dX5_parse_6 ?_
  refine tm_puti fl_X5_29 fw_4_6 rfl rfl rfl rfl 10 rfl dX5_parse_7 ?_
  refine tm_iconst (0) rfl 11 rfl dX5_parse_10 ?_
  refine tm_istore_1 (by decide) rfl 12 rfl dX5_parse_11 ?_
  refine (tm_loop (N := 12) (fun k => ∀ (Mx : MI), (pcI t s M Mx k) → Tm g (d + 4) RX5 cX5_parse 2 (some .int) (QIr g (fun r M' L' => L' = L ∧ prQ t s M r M')) 12 [some (rf g 23), some (.int (nI k))] [] Mx (L)) (fun k hk ih Mx hI => ?_) (fun Mx hI => ?_)) _ ?_
  · refine tm_iload_1 13 rfl dX5_parse_12 ?_
    refine tm_bipush (12) (by decide) 15 rfl dX5_parse_13 ?_
    refine tm_icmp_ge_f 18 (nI_ge (b := 12) hk (by decide)) rfl rfl dX5_parse_15 ?_
    refine tm_aload_0 19 rfl dX5_parse_18 ?_
    refine tm_iload_1 20 rfl dX5_parse_19 ?_
    refine tm_callVr_I (ci := 4) (c_X5_takeClause hI.1 (c := k) hk (by have := pP_b t s k; omega)) mv_X5_takeClause ml_X5_32 rfl rfl rfl rfl rfl (Nat.le_of_ble_eq_true rfl) 23 rfl dX5_parse_20 (fun r M1 L1 hQ => ?_)
    obtain ⟨hL1, hq⟩ := hQ
    have hL1 := hL1.symm
    subst hL1
    have hbE := clE_b t s k
    have hr := hq.1
    have hr : r = bI (clO t s (pP t s k)) := hr
    subst hr
    refine tm_if_neB 31 26 rfl rfl dX5_parse_23 (fun h23 => ?_) (fun h23 => ?_)
    · have hyes : clO t s (pP t s k) = true := h23
      have hN := pc_n hI hk hyes ⟨by rw [show okK (kd (sg t s (pP t s k))) t s (pP t s k) = true from hyes]; rfl, hq.2⟩
      refine tm_aload_0 32 rfl dX5_parse_31 ?_
      refine tm_dup rfl 33 rfl dX5_parse_32 ?_
      refine tm_geti fl_X5_29 rfl rfl 36 rfl dX5_parse_33 ?_
      rw [hq.2.2.2.2 23 6 (by omega), hI.2.1]
      refine tm_iconst (1) rfl 37 rfl dX5_parse_36 ?_
      refine tm_iadd 38 rfl dX5_parse_37 ?_
      rw [nI_1]
      refine tm_puti fl_X5_29 fw_4_6 rfl rfl rfl rfl 41 rfl dX5_parse_38 ?_
      refine tm_aload_0 42 rfl dX5_parse_41 ?_
      refine tm_callV_I (ci := 4) (c_X5_sign hN.1) mv_X5_sign ml_X5_36 rfl rfl rfl rfl rfl (Nat.le_of_ble_eq_true rfl) 45 rfl dX5_parse_42 ?_
      refine tm_iconst (-1) rfl 46 rfl dX5_parse_45 ?_
      refine tm_icmp_ne 51 49 rfl rfl dX5_parse_46 (fun h46 => ?_) (fun h46 => ?_)
      · refine tm_aload_0 52 rfl dX5_parse_51 ?_
        refine tm_callV_I (ci := 4) (c_X5_sign hN.1) mv_X5_sign ml_X5_36 rfl rfl rfl rfl rfl (Nat.le_of_ble_eq_true rfl) 55 rfl dX5_parse_52 ?_
        refine tm_bipush (59) (by decide) 57 rfl dX5_parse_55 ?_
        refine tm_icmp_ne 69 60 rfl rfl dX5_parse_57 (fun h57 => ?_) (fun h57 => ?_)
        · refine tm_aload_0 70 rfl dX5_parse_69 ?_
          refine tm_geti fl_X5_17 rfl rfl 73 rfl dX5_parse_70 ?_
          rw [hN.1.2.2.2.1]
          exact tm_iretR (by first | (have h59 : ¬ sg t s (clE t s (pP t s k)) = 59 := h57; have hfj := fj_eq hk (st_n59 h59) hI.2.2.1; exact ⟨rfl, pr_f hfj (bd_n hfj h46) hN.2.2 rfl⟩) | (have h12 : k + 1 = 12 := (nI_eq (by omega) (by decide)).mp (show nI (k + 1) = nI 12 from h66); have hfj := fj_eq hk (st_11 (by omega)) hI.2.2.1; exact ⟨rfl, pr_f hfj (bd_n hfj h46) hN.2.2 rfl⟩)) dX5_parse_73
        · refine tm_aload_0 61 rfl dX5_parse_60 ?_
          refine tm_geti fl_X5_29 rfl rfl 64 rfl dX5_parse_61 ?_
          rw [s1_eq]
          refine tm_bipush (12) (by decide) 66 rfl dX5_parse_64 ?_
          refine tm_icmp_ne 74 69 rfl rfl dX5_parse_66 (fun h66 => ?_) (fun h66 => ?_)
          · refine tm_aload_0 75 rfl dX5_parse_74 ?_
            refine tm_dup rfl 76 rfl dX5_parse_75 ?_
            refine tm_geti fl_X5_17 rfl rfl 79 rfl dX5_parse_76 ?_
            rw [hN.1.2.2.2.1]
            refine tm_iconst (1) rfl 80 rfl dX5_parse_79 ?_
            refine tm_iadd 81 rfl dX5_parse_80 ?_
            rw [nI_1]
            refine tm_puti fl_X5_17 fw_4_2 rfl rfl rfl rfl 84 rfl dX5_parse_81 ?_
            refine tm_iinc_1 (nI (k + 1)) (iinc1 k) (by decide) rfl 87 rfl dX5_parse_84 ?_
            refine tm_goto 12 rfl dX5_parse_87 ?_
            exact ih _ (pc_s hN.1 (s1_eq _ _ _ _) hI.2.2.1 (st_y hyes (h57) (by have h12 : ¬ k + 1 = 12 := fun z => h66 (by rw [z]; rfl); omega)) hk hN.2.1 hN.2.2)
          · refine tm_aload_0 70 rfl dX5_parse_69 ?_
            refine tm_geti fl_X5_17 rfl rfl 73 rfl dX5_parse_70 ?_
            rw [hN.1.2.2.2.1]
            exact tm_iretR (by first | (have h59 : ¬ sg t s (clE t s (pP t s k)) = 59 := h57; have hfj := fj_eq hk (st_n59 h59) hI.2.2.1; exact ⟨rfl, pr_f hfj (bd_n hfj h46) hN.2.2 rfl⟩) | (have h12 : k + 1 = 12 := (nI_eq (by omega) (by decide)).mp (show nI (k + 1) = nI 12 from h66); have hfj := fj_eq hk (st_11 (by omega)) hI.2.2.1; exact ⟨rfl, pr_f hfj (bd_n hfj h46) hN.2.2 rfl⟩)) dX5_parse_73
      · have hend : sg t s (clE t s (pP t s k)) = -1 := h46
        have hfj := fj_eq hk (st_n59 (by rw [hend]; decide)) hI.2.2.1
        refine tm_iconst (-1) rfl 50 rfl dX5_parse_49 ?_
        exact tm_iretR ⟨rfl, hN.2.2, Or.inr ⟨bd_y hfj hyes hend, rfl, by rw [hfj]; exact s1_eq _ _ _ _, by rw [hfj]; exact hN.2.1⟩⟩ dX5_parse_50
    · have hno : clO t s (pP t s k) = false := h23
      have hfj := fj_eq hk (sp_no hno) hI.2.2.1
      refine tm_aload_0 27 rfl dX5_parse_26 ?_
      refine tm_geti fl_X5_17 rfl rfl 30 rfl dX5_parse_27 ?_
      rw [hq.2.1]
      exact tm_iretR ⟨rfl, pr_f hfj (bd_no hfj hno) (hI.2.2.2.2.tr (frP.T hq.2.2.2.2)) rfl⟩ dX5_parse_30
  · refine tm_iload_1 13 rfl dX5_parse_12 ?_
    refine tm_bipush (12) (by decide) 15 rfl dX5_parse_13 ?_
    refine tm_icmp_ge_t 90 (by decide) rfl dX5_parse_15 ?_
    exact absurd hI.2.2.1 stp_11
  · exact pc_0 hs h1 ht


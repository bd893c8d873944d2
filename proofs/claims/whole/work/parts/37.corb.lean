/-! class Orbit -/
def orbR (M : MI) (q : BQ) : Prop := M 46 3 = nI q.1 ∧ (∀ i, i < q.1 → M 48 i = nI (q.2.1 i) ∧ M 49 i = nI (q.2.2 i)) ∧ ∀ e, e < 65536 → wb (M 47 (e / 32)) (e % 32) = memB q e
def frO (M M' : MI) : Prop := ∀ i k, ¬ (46 ≤ i ∧ i ≤ 49) → M' i k = M i k
theorem frO.rf {M : MI} : frO M M := fun _ _ _ => rfl
theorem frO.tr {M M1 M2 : MI} (h : frO M M1) (h2 : frO M1 M2) : frO M M2 := fun i k q => (h2 i k q).trans (h i k q)
theorem frO.s1 {M M1 : MI} (h : frO M M1) {i : Nat} (h1 : 46 ≤ i) (h2 : i ≤ 49) (k : Nat) (x : Int32) : frO M (s1 M1 i k x) := fun j u q => by
  rw [s1_ne (show j ≠ i from fun z => q (by omega))]
  exact h j u q
/-- what holds of the orbit's rows between calls -/
def orbI (M : MI) : Prop := ∃ (s : Nat) (f : Nat → Nat), M 46 3 = nI s ∧ s ≤ 768 ∧ (∀ i, i < s → M 48 i = nI (f i) ∧ f i < 65536) ∧ ∀ w, w < 2048 → (∀ i, i < s → f i / 32 ≠ w) → M 47 w = 0
theorem wb_all {x : Int32} (h : ∀ j, j < 32 → wb x j = false) : x = 0 := by
  apply Int32.toBitVec_inj.mp
  apply BitVec.eq_of_getLsbD_eq
  intro i hi
  have := h i hi
  unfold wb at this
  rw [this]
  show false = (0#32).getLsbD i
  simp
theorem orbI_of {M : MI} {n c : Nat} {q : BQ} (h4 : n ≤ 4) (h : orbR M q) (hq : qOK n c q) : orbI M := by
  refine ⟨q.1, q.2.1, h.1, q_768 hq, fun i hi => ⟨(h.2.1 i hi).1, by have := fam_lt (hq.2.1 i hi); have := p65 h4; omega⟩, fun w hw hn => wb_all (fun j hj => ?_)⟩
  have z := h.2.2 (32 * w + j) (by omega)
  rw [show (32 * w + j) / 32 = w by omega, show (32 * w + j) % 32 = j by omega] at z
  rw [z]
  cases m : memB q (32 * w + j)
  · rfl
  · obtain ⟨i, h1, h2⟩ := mem_iff.mp m
    exact absurd (show q.2.1 i / 32 = w by omega) (hn i h1)
theorem or_new {M : MI} {q : BQ} {e st : Nat} (h : orbR M q) (he : e < 65536) (hm : memB q e = false) : orbR (s1 (s1 (s1 (s1 M 47 (e / 32) (M 47 (e / 32) ||| ((1 : Int32) <<< (nI (e % 32) &&& 31)))) 48 q.1 (nI e)) 49 q.1 (nI st)) 46 3 (nI q.1 + 1)) (mtQ q e st) := by
  refine ⟨?_, fun i hi => ?_, fun x hx => ?_⟩
  · rw [s1_eq, mt_n hm, nI_1]
  · rw [mt_n hm] at hi ⊢
    have hi' : i < q.1 + 1 := hi
    rw [s1_ne (by decide), s1_ne (by decide)]
    show s1 (s1 M 47 (e / 32) _) 48 q.1 (nI e) 48 i = nI (uN q.2.1 q.1 e i) ∧ s1 (s1 (s1 M 47 (e / 32) _) 48 q.1 (nI e)) 49 q.1 (nI st) 49 i = nI (uN q.2.2 q.1 st i)
    by_cases d : i = q.1
    · subst d
      rw [s1_eq, s1_eq, uN_eq, uN_eq]
      exact ⟨rfl, rfl⟩
    · rw [s1_nk d, s1_nk d, uN_ne d, uN_ne d, s1_ne (by decide), s1_ne (by decide), s1_ne (by decide)]
      exact h.2.1 i (by omega)
  · rw [s1_ne (by decide), s1_ne (by decide), s1_ne (by decide), mem_n hm, ← h.2.2 x hx]
    by_cases d : x / 32 = e / 32
    · rw [d, s1_eq, wb_or (by omega)]
      congr 1
      apply decide_eq_decide.mpr
      omega
    · rw [s1_nk d, decide_eq_false (show ¬ x = e from fun z => d (by rw [z])), Bool.or_false]
set_option maxRecDepth 100000 in
set_option maxHeartbeats 4000000 in
theorem c_X1_meet {g : GC} {d : Nat} {M : MI} {L : ML} {q : BQ} {e st : Nat} (hO : orbR M q) (he : e < 65536) (hnw : memB q e = false → q.1 < 768) : CrV g (d) yX1_meet cX1_meet 5 [rf g 46, .int (nI e), .int (nI st)] M L (fun M' L' => L' = L ∧ orbR M' (mtQ q e st) ∧ frO M M') := by
  refine crV_of (own := RX1) (l := [some (rf g 46), some (.int (nI e)), some (.int (nI st)), none, none]) 2 rfl rfl rfl (Nat.le_of_ble_eq_true rfl) ?_
  refine tm_iload_1 1 rfl dX1_meet_0 ?_
  refine tm_bipush (32) (by decide) 3 rfl dX1_meet_1 ?_
  refine tm_idiv (by decide) 4 rfl dX1_meet_3 ?_
  rw [show (32 : Int32) = nI 32 from rfl, pk_div (by omega) (by decide) (by decide)]
  refine tm_istore_3 (by decide) rfl 5 rfl dX1_meet_4 ?_
  refine tm_iconst (1) rfl 6 rfl dX1_meet_5 ?_
  refine tm_iload_1 7 rfl dX1_meet_6 ?_
  refine tm_bipush (32) (by decide) 9 rfl dX1_meet_7 ?_
  refine tm_irem (by decide) 10 rfl dX1_meet_9 ?_
  rw [show (32 : Int32) = nI 32 from rfl, pk_rem (by omega) (by decide) (by decide)]
  refine tm_ishl 11 rfl dX1_meet_10 ?_
  refine tm_istore_4 (by decide) rfl 13 rfl dX1_meet_11 ?_
  refine tm_aload_0 14 rfl dX1_meet_13 ?_
  refine tm_getr fl_X1_11 rfl rfl 17 rfl dX1_meet_14 ?_
  refine tm_iload_3 18 rfl dX1_meet_17 ?_
  refine tm_ald rfl (ix := e / 32) (ix_nI (by omega) (by decide)) 19 rfl dX1_meet_18 ?_
  refine tm_iload_4 21 rfl dX1_meet_19 ?_
  refine tm_iand 22 rfl dX1_meet_21 ?_
  refine tm_if_ne 35 25 rfl rfl dX1_meet_22 (fun h22 => ?_) (fun h22 => ?_)
  · exact tm_vretR ⟨rfl, (by rw [mt_y]; exact hO; rw [← hO.2.2 e he]; cases z : wb (M 47 (e / 32)) (e % 32); exact absurd ((wb_and (by omega)).mpr z) h22; rfl), frO.rf⟩ dX1_meet_35
  · have hm : memB q e = false := by rw [← hO.2.2 e he]; exact (wb_and (by omega)).mp h22
    have hlt := hnw hm
    refine tm_aload_0 26 rfl dX1_meet_25 ?_
    refine tm_geti fl_X1_21 rfl rfl 29 rfl dX1_meet_26 ?_
    rw [hO.1]
    refine tm_sipush (768) (by decide) 32 rfl dX1_meet_29 ?_
    refine tm_icmp_lt_t 36 (nI_lt (b := 768) hlt (by decide)) rfl dX1_meet_32 ?_
    refine tm_aload_0 37 rfl dX1_meet_36 ?_
    refine tm_getr fl_X1_11 rfl rfl 40 rfl dX1_meet_37 ?_
    refine tm_iload_3 41 rfl dX1_meet_40 ?_
    refine tm_dup2 rfl rfl 42 rfl dX1_meet_41 ?_
    refine tm_ald rfl (ix := e / 32) (ix_nI (by omega) (by decide)) 43 rfl dX1_meet_42 ?_
    refine tm_iload_4 45 rfl dX1_meet_43 ?_
    refine tm_ior 46 rfl dX1_meet_45 ?_
    refine tm_ast rfl (ix := e / 32) (ix_nI (by omega) (by decide)) 47 rfl dX1_meet_46 ?_
    refine tm_aload_0 48 rfl dX1_meet_47 ?_
    refine tm_getr fl_X1_15 rfl rfl 51 rfl dX1_meet_48 ?_
    refine tm_aload_0 52 rfl dX1_meet_51 ?_
    refine tm_geti fl_X1_21 rfl rfl 55 rfl dX1_meet_52 ?_
    rw [s1_ne (by decide), hO.1]
    refine tm_iload_1 56 rfl dX1_meet_55 ?_
    refine tm_ast rfl (ix := q.1) (ix_nI (by omega) (by decide)) 57 rfl dX1_meet_56 ?_
    refine tm_aload_0 58 rfl dX1_meet_57 ?_
    refine tm_getr fl_X1_18 rfl rfl 61 rfl dX1_meet_58 ?_
    refine tm_aload_0 62 rfl dX1_meet_61 ?_
    refine tm_geti fl_X1_21 rfl rfl 65 rfl dX1_meet_62 ?_
    rw [s1_ne (by decide), s1_ne (by decide), hO.1]
    refine tm_iload_2 66 rfl dX1_meet_65 ?_
    refine tm_ast rfl (ix := q.1) (ix_nI (by omega) (by decide)) 67 rfl dX1_meet_66 ?_
    refine tm_aload_0 68 rfl dX1_meet_67 ?_
    refine tm_dup rfl 69 rfl dX1_meet_68 ?_
    refine tm_geti fl_X1_21 rfl rfl 72 rfl dX1_meet_69 ?_
    rw [s1_ne (by decide), s1_ne (by decide), s1_ne (by decide), hO.1]
    refine tm_iconst (1) rfl 73 rfl dX1_meet_72 ?_
    refine tm_iadd 74 rfl dX1_meet_73 ?_
    refine tm_puti fl_X1_21 fw_0_3 rfl rfl rfl rfl 77 rfl dX1_meet_74 ?_
    exact tm_vretR ⟨rfl, or_new hO he hm, (((frO.rf.s1 (by decide) (by decide) _ _).s1 (by decide) (by decide) _ _).s1 (by decide) (by decide) _ _).s1 (by decide) (by decide) _ _⟩ dX1_meet_77

theorem fg_end {M Mx : MI} {s : Nat} {f : Nat → Nat} (h0 : ∀ w, w < 2048 → (∀ i, i < s → f i / 32 ≠ w) → M 47 w = 0) (hx : ∀ w, w < 2048 → Mx 47 w = 0 ∨ (Mx 47 w = M 47 w ∧ ∀ i, i < s → f i / 32 ≠ w)) : orbR (s1 Mx 46 3 0) (0, fun _ => 0, fun _ => 0) := by
  refine ⟨by rw [s1_eq]; rfl, fun i hi => absurd hi (Nat.not_lt_zero i), fun e he => ?_⟩
  rw [s1_ne (by decide)]
  have z : Mx 47 (e / 32) = 0 := by
    rcases hx (e / 32) (by omega) with q | q
    · exact q
    · rw [q.1]; exact h0 _ (by omega) q.2
  rw [z, wb_0]
  rfl
theorem fg_s {M Mx : MI} {k : Nat} {f : Nat → Nat} (hx : ∀ w, w < 2048 → Mx 47 w = 0 ∨ (Mx 47 w = M 47 w ∧ ∀ i, i < k → f i / 32 ≠ w)) : ∀ w, w < 2048 → s1 Mx 47 (f k / 32) 0 47 w = 0 ∨ (s1 Mx 47 (f k / 32) 0 47 w = M 47 w ∧ ∀ i, i < k + 1 → f i / 32 ≠ w) := fun w hw => by
  by_cases c : w = f k / 32
  · subst c; left; exact s1_eq _ _ _ _
  · rw [s1_nk c]
    rcases hx w hw with q | q
    · exact Or.inl q
    · refine Or.inr ⟨q.1, fun i hi => ?_⟩
      rcases Nat.lt_succ_iff_lt_or_eq.mp hi with z | z
      · exact q.2 i z
      · subst z; exact fun y => c y.symm
set_option maxRecDepth 100000 in
set_option maxHeartbeats 4000000 in
theorem c_X1_forget {g : GC} {d : Nat} {M : MI} {L : ML} {s : Nat} {f : Nat → Nat} (hs : M 46 3 = nI s) (h7 : s ≤ 768) (hf : ∀ i, i < s → M 48 i = nI (f i) ∧ f i < 65536) (h0 : ∀ w, w < 2048 → (∀ i, i < s → f i / 32 ≠ w) → M 47 w = 0) : CrV g (d) yX1_forget cX1_forget 2 [rf g 46] M L (fun M' L' => L' = L ∧ orbR M' (0, fun _ => 0, fun _ => 0) ∧ frO M M') := by
  refine crV_of (own := RX1) (l := [some (rf g 46), none]) 1 rfl rfl rfl (Nat.le_of_ble_eq_true rfl) ?_
  refine tm_iconst (0) rfl 1 rfl dX1_forget_0 ?_
  refine tm_istore_1 (by decide) rfl 2 rfl dX1_forget_1 ?_
  refine (tm_loop (N := s) (fun k => ∀ (Mx : MI), ((∀ i, i ≠ 47 → Mx i = M i) ∧ ∀ w, w < 2048 → Mx 47 w = 0 ∨ (Mx 47 w = M 47 w ∧ ∀ i, i < k → f i / 32 ≠ w)) → Tm g (d) RX1 cX1_forget 2 none (QVr g (fun M' L' => L' = L ∧ orbR M' (0, fun _ => 0, fun _ => 0) ∧ frO M M')) 2 [some (rf g 46), some (.int (nI k))] [] Mx (L)) (fun k hk ih Mx hI => ?_) (fun Mx hI => ?_)) M ?_
  · refine tm_iload_1 3 rfl dX1_forget_2 ?_
    refine tm_aload_0 4 rfl dX1_forget_3 ?_
    refine tm_geti fl_X1_21 rfl rfl 7 rfl dX1_forget_4 ?_
    rw [hI.1 46 (by decide), hs]
    refine tm_icmp_ge_f 10 (nI_ge hk (by omega)) rfl rfl dX1_forget_7 ?_
    refine tm_aload_0 11 rfl dX1_forget_10 ?_
    refine tm_getr fl_X1_11 rfl rfl 14 rfl dX1_forget_11 ?_
    refine tm_aload_0 15 rfl dX1_forget_14 ?_
    refine tm_getr fl_X1_15 rfl rfl 18 rfl dX1_forget_15 ?_
    refine tm_iload_1 19 rfl dX1_forget_18 ?_
    refine tm_ald rfl (ix := k) (ix_nI (by omega) (by decide)) 20 rfl dX1_forget_19 ?_
    rw [hI.1 48 (by decide), (hf k hk).1]
    have hfk := (hf k hk).2
    refine tm_bipush (32) (by decide) 22 rfl dX1_forget_20 ?_
    refine tm_idiv (by decide) 23 rfl dX1_forget_22 ?_
    rw [show (32 : Int32) = nI 32 from rfl, pk_div (by omega) (by decide) (by decide)]
    refine tm_iconst (0) rfl 24 rfl dX1_forget_23 ?_
    refine tm_ast rfl (ix := f k / 32) (ix_nI (by omega) (by decide)) 25 rfl dX1_forget_24 ?_
    refine tm_iinc_1 (nI (k + 1)) (iinc1 k) (by decide) rfl 28 rfl dX1_forget_25 ?_
    refine tm_goto 2 rfl dX1_forget_28 ?_
    exact ih _ ⟨fun i hi => by rw [s1_ne hi]; exact hI.1 i hi, fg_s hI.2⟩
  · refine tm_iload_1 3 rfl dX1_forget_2 ?_
    refine tm_aload_0 4 rfl dX1_forget_3 ?_
    refine tm_geti fl_X1_21 rfl rfl 7 rfl dX1_forget_4 ?_
    rw [hI.1 46 (by decide), hs]
    refine tm_icmp_ge_t 31 (nI_le (Nat.le_refl _) (by omega)) rfl dX1_forget_7 ?_
    refine tm_aload_0 32 rfl dX1_forget_31 ?_
    refine tm_iconst (0) rfl 33 rfl dX1_forget_32 ?_
    refine tm_puti fl_X1_21 fw_0_3 rfl rfl rfl rfl 36 rfl dX1_forget_33 ?_
    exact tm_vretR ⟨rfl, fg_end h0 hI.2, fun i k z => by rw [s1_ne (show i ≠ 46 from fun y => z (by omega)), hI.1 i (fun y => z (by omega))]⟩ dX1_forget_36
  · exact ⟨fun _ _ => rfl, fun w _ => Or.inr ⟨rfl, fun i hi => absurd hi (by omega)⟩⟩

theorem bes_at {n c e st : Nat} {q : BQ} (h4 : n ≤ 4) (h : qOK n c q) (he : Fam n c e) (hs : st ≤ q.1) (m x : Nat) (hx : Fam n c x) : memB (besQ n e st q m) x = false → (besQ n e st q m).1 < 768 := fun hm => by
  have a := bes_ok h4 h he hs m
  have b := q_768 (q_mt a.1 hx (st := st) (by omega))
  rw [mt_n hm] at b
  exact b
set_option maxRecDepth 100000 in
set_option maxHeartbeats 4000000 in
theorem c_X1_meetAllBeside {g : GC} {d : Nat} {M : MI} {L : ML} {n c e st : Nat} {q : BQ} (h2 : 2 ≤ n) (h4 : n ≤ 4) (hc : c < 2 ^ 2 ^ n) (hq : qOK n c q) (he : Fam n c e) (hs : st ≤ q.1) (hO : orbR M q) : CrV g (d + 3) yX1_meetAllBeside cX1_meetAllBeside 5 [rf g 46, .int (nI n), .int (nI e), .int (nI st)] M L (fun M' L' => L' = L ∧ orbR M' (besQ n e st q (2 * n + 1)) ∧ frO M M') := by
  have h65 := p65 h4
  have hel := fam_lt he
  refine crV_of (own := RX1) (l := [some (rf g 46), some (.int (nI n)), some (.int (nI e)), some (.int (nI st)), none]) 1 rfl rfl rfl (Nat.le_of_ble_eq_true rfl) ?_
  refine tm_iconst (0) rfl 1 rfl dX1_meetAllBeside_0 ?_
  refine tm_istore_4 (by decide) rfl 3 rfl dX1_meetAllBeside_1 ?_
  refine (tm_loop (N := n) (fun k => ∀ (Mx : MI), (orbR Mx (besQ n e st q k) ∧ frO M Mx) → Tm g (d + 3) RX1 cX1_meetAllBeside 5 none (QVr g (fun M' L' => L' = L ∧ orbR M' (besQ n e st q (2 * n + 1)) ∧ frO M M')) 3 [some (rf g 46), some (.int (nI n)), some (.int (nI e)), some (.int (nI st)), some (.int (nI k))] [] Mx (L)) (fun k hk ih Mx hI => ?_) (fun Mx hI => ?_)) M ?_
  · refine tm_iload_4 5 rfl dX1_meetAllBeside_3 ?_
    refine tm_iload_1 6 rfl dX1_meetAllBeside_5 ?_
    refine tm_icmp_ge_f 9 (nI_ge hk (by omega)) rfl rfl dX1_meetAllBeside_6 ?_
    refine tm_aload_0 10 rfl dX1_meetAllBeside_9 ?_
    refine tm_iload_2 11 rfl dX1_meetAllBeside_10 ?_
    refine tm_iload_4 13 rfl dX1_meetAllBeside_11 ?_
    refine tm_callS_I (c_X0_turned (n := n) h4 hel hk) ms_X0_turned ml_X1_36 rfl rfl (Nat.le_of_ble_eq_true rfl) 16 rfl dX1_meetAllBeside_13 ?_
    refine tm_iload_3 17 rfl dX1_meetAllBeside_16 ?_
    refine tm_callVr_V (ci := 0) (c_X1_meet (q := besQ n e st q (k)) (e := tnd n e k) (st := st) hI.1 (by have := fam_lt (fam_t h4 hk he); omega) (bes_at h4 hq he hs _ _ (fam_t h4 hk he))) mv_X1_meet ml_X1_28 rfl rfl rfl rfl rfl (Nat.le_of_ble_eq_true rfl) 20 rfl dX1_meetAllBeside_17 (fun M1 L1 hQ => ?_)
    obtain ⟨hL1, hO1, hF1⟩ := hQ
    have hL1 := hL1.symm
    subst hL1
    refine tm_iinc_4 (nI (k + 1)) (iinc1 k) (by decide) rfl 23 rfl dX1_meetAllBeside_20 ?_
    refine tm_goto 3 rfl dX1_meetAllBeside_23 ?_
    exact ih _ ⟨by rw [← mv_t hk] at hO1; exact hO1, hI.2.tr hF1⟩
  · refine tm_iload_4 5 rfl dX1_meetAllBeside_3 ?_
    refine tm_iload_1 6 rfl dX1_meetAllBeside_5 ?_
    refine tm_icmp_ge_t 26 (nI_le (Nat.le_refl _) (by omega)) rfl dX1_meetAllBeside_6 ?_
    refine tm_iconst (0) rfl 27 rfl dX1_meetAllBeside_26 ?_
    refine tm_istore_4 (by decide) rfl 29 rfl dX1_meetAllBeside_27 ?_
    refine (tm_loop (N := n - 1) (fun k => ∀ (My : MI), (orbR My (besQ n e st q (n + k)) ∧ frO M My) → Tm g (d + 3) RX1 cX1_meetAllBeside 5 none (QVr g (fun M' L' => L' = L ∧ orbR M' (besQ n e st q (2 * n + 1)) ∧ frO M M')) 29 [some (rf g 46), some (.int (nI n)), some (.int (nI e)), some (.int (nI st)), some (.int (nI k))] [] My (L)) (fun k hk ih My hI => ?_) (fun My hI => ?_)) Mx ?_
    · refine tm_iload_4 31 rfl dX1_meetAllBeside_29 ?_
      refine tm_iload_1 32 rfl dX1_meetAllBeside_31 ?_
      refine tm_iconst (1) rfl 33 rfl dX1_meetAllBeside_32 ?_
      refine tm_isub 34 rfl dX1_meetAllBeside_33 ?_
      rw [show (1 : Int32) = nI 1 from rfl, pk_sub (by omega)]
      refine tm_icmp_ge_f 37 (nI_ge hk (by omega)) rfl rfl dX1_meetAllBeside_34 ?_
      refine tm_aload_0 38 rfl dX1_meetAllBeside_37 ?_
      refine tm_iload_2 39 rfl dX1_meetAllBeside_38 ?_
      refine tm_iload_4 41 rfl dX1_meetAllBeside_39 ?_
      refine tm_iload_4 43 rfl dX1_meetAllBeside_41 ?_
      refine tm_iconst (1) rfl 44 rfl dX1_meetAllBeside_43 ?_
      refine tm_iadd 45 rfl dX1_meetAllBeside_44 ?_
      rw [nI_1]
      refine tm_callS_I (c_X0_changedAbout (n := n) h4 hel (i := k) (j := k + 1) (by omega) (by omega) (by omega)) ms_X0_changedAbout ml_X1_42 rfl rfl (Nat.le_of_ble_eq_true rfl) 48 rfl dX1_meetAllBeside_45 ?_
      refine tm_iload_3 49 rfl dX1_meetAllBeside_48 ?_
      refine tm_callVr_V (ci := 0) (c_X1_meet (q := besQ n e st q (n + k)) (e := chN n e k (k + 1)) (st := st) hI.1 (by have := fam_lt (fam_c (i := k) h4 (by omega) he); omega) (bes_at h4 hq he hs _ _ (fam_c (i := k) h4 (by omega) he))) mv_X1_meet ml_X1_28 rfl rfl rfl rfl rfl (Nat.le_of_ble_eq_true rfl) 52 rfl dX1_meetAllBeside_49 (fun M1 L1 hQ => ?_)
      obtain ⟨hL1, hO1, hF1⟩ := hQ
      have hL1 := hL1.symm
      subst hL1
      refine tm_iinc_4 (nI (k + 1)) (iinc1 k) (by decide) rfl 55 rfl dX1_meetAllBeside_52 ?_
      refine tm_goto 29 rfl dX1_meetAllBeside_55 ?_
      exact ih _ ⟨by rw [← mv_c (by omega)] at hO1; exact hO1, hI.2.tr hF1⟩
    · refine tm_iload_4 31 rfl dX1_meetAllBeside_29 ?_
      refine tm_iload_1 32 rfl dX1_meetAllBeside_31 ?_
      refine tm_iconst (1) rfl 33 rfl dX1_meetAllBeside_32 ?_
      refine tm_isub 34 rfl dX1_meetAllBeside_33 ?_
      rw [show (1 : Int32) = nI 1 from rfl, pk_sub (by omega)]
      refine tm_icmp_ge_t 58 (nI_le (Nat.le_refl _) (by omega)) rfl dX1_meetAllBeside_34 ?_
      refine tm_aload_0 59 rfl dX1_meetAllBeside_58 ?_
      refine tm_iload_1 60 rfl dX1_meetAllBeside_59 ?_
      refine tm_iload_2 61 rfl dX1_meetAllBeside_60 ?_
      refine tm_callS_I (c_X0_dual h4 hel) ms_X0_dual ml_X1_46 rfl rfl (Nat.le_of_ble_eq_true rfl) 64 rfl dX1_meetAllBeside_61 ?_
      refine tm_iload_3 65 rfl dX1_meetAllBeside_64 ?_
      refine tm_callVr_V (ci := 0) (c_X1_meet (q := besQ n e st q (2 * n - 1)) (e := dlN n e) (st := st) (by rw [show n + (n - 1) = 2 * n - 1 by omega] at hI; exact hI.1) (by have := fam_lt (fam_d h4 he); omega) (bes_at h4 hq he hs _ _ (fam_d h4 he))) mv_X1_meet ml_X1_28 rfl rfl rfl rfl rfl (Nat.le_of_ble_eq_true rfl) 68 rfl dX1_meetAllBeside_65 (fun M1 L1 hQ => ?_)
      obtain ⟨hL1, hO1, hF1⟩ := hQ
      have hL1 := hL1.symm
      subst hL1
      rw [← mv_d h2, show mtQ (besQ n e st q (2 * n - 1)) (mvN n e (2 * n - 1)) st = besQ n e st q (2 * n - 1 + 1) from rfl, show 2 * n - 1 + 1 = 2 * n by omega] at hO1
      refine tm_aload_0 69 rfl dX1_meetAllBeside_68 ?_
      refine tm_iload_1 70 rfl dX1_meetAllBeside_69 ?_
      refine tm_iload_2 71 rfl dX1_meetAllBeside_70 ?_
      refine tm_callS_I (c_X0_opposite h4 hel) ms_X0_opposite ml_X1_49 rfl rfl (Nat.le_of_ble_eq_true rfl) 74 rfl dX1_meetAllBeside_71 ?_
      refine tm_iload_3 75 rfl dX1_meetAllBeside_74 ?_
      refine tm_callVr_V (ci := 0) (c_X1_meet (q := besQ n e st q (2 * n)) (e := opN n e) (st := st) hO1 (by have := fam_lt (fam_o he); omega) (bes_at h4 hq he hs _ _ (fam_o he))) mv_X1_meet ml_X1_28 rfl rfl rfl rfl rfl (Nat.le_of_ble_eq_true rfl) 78 rfl dX1_meetAllBeside_75 (fun M2 L2 hQ => ?_)
      obtain ⟨hL1, hO2, hF2⟩ := hQ
      have hL1 := hL1.symm
      subst hL1
      rw [← mv_o h2] at hO2
      exact tm_vretR ⟨rfl, hO2, (hI.2.tr hF1).tr hF2⟩ dX1_meetAllBeside_78
    · exact hI
  · exact ⟨hO, frO.rf⟩

theorem q0_mt (c : Nat) : mtQ (0, fun _ => 0, fun _ => 0) c 0 = (1, fun j => if j = 0 then c else 0, fun j => if j = 0 then 0 else 0) := rfl
theorem or_cong {M : MI} {q q2 : BQ} (h : orbR M q) (h1 : q.1 = q2.1) (h2 : ∀ i, i < q.1 → q.2.1 i = q2.2.1 i ∧ q.2.2 i = q2.2.2 i) : orbR M q2 := by
  refine ⟨by rw [← h1]; exact h.1, fun i hi => ?_, fun e he => ?_⟩
  · rw [← h1] at hi
    rw [← (h2 i hi).1, ← (h2 i hi).2]
    exact h.2.1 i hi
  · rw [h.2.2 e he]
    cases m : memB q2 e
    · cases m2 : memB q e
      · rfl
      · obtain ⟨i, a, b⟩ := mem_iff.mp m2
        have := mem_no m (i := i) (by omega)
        rw [(h2 i a).1] at b
        exact absurd b this
    · obtain ⟨i, a, b⟩ := mem_iff.mp m
      exact mem_iff.mpr ⟨i, by omega, by rw [(h2 i (by omega)).1]; exact b⟩
theorem or_first {M : MI} {n c : Nat} (h : orbR M (mtQ (0, fun _ => 0, fun _ => 0) c 0)) : orbR M (bfQ n c 0) := by
  refine or_cong h rfl (fun i hi => ?_)
  have hi' : i < 1 := hi
  have : i = 0 := by omega
  subst this
  exact ⟨rfl, rfl⟩
set_option maxRecDepth 100000 in
set_option maxHeartbeats 4000000 in
theorem c_X1_spread {g : GC} {d : Nat} {M : MI} {L : ML} {n c : Nat} (h2 : 2 ≤ n) (h4 : n ≤ 4) (hc : c < 2 ^ 2 ^ n) {s : Nat} {f : Nat → Nat} (hs : M 46 3 = nI s) (h7 : s ≤ 768) (hf : ∀ i, i < s → M 48 i = nI (f i) ∧ f i < 65536) (h0 : ∀ w, w < 2048 → (∀ i, i < s → f i / 32 ≠ w) → M 47 w = 0) : CrV g (d + 4) yX1_spread cX1_spread 4 [rf g 46, .int (nI n), .int (nI c)] M L (fun M' L' => L' = L ∧ orbR M' (orbF n c) ∧ frO M M') := by
  have h65 := p65 h4
  refine crV_of (own := RX1) (l := [some (rf g 46), some (.int (nI n)), some (.int (nI c)), none]) 1 rfl rfl rfl (Nat.le_of_ble_eq_true rfl) ?_
  refine tm_aload_0 1 rfl dX1_spread_0 ?_
  refine tm_callVr_V (ci := 0) (c_X1_forget hs h7 hf h0) mv_X1_forget ml_X1_25 rfl rfl rfl rfl rfl (Nat.le_of_ble_eq_true rfl) 4 rfl dX1_spread_1 (fun M1 L1 hQ => ?_)
  obtain ⟨hL1, hO1, hF1⟩ := hQ
  have hL1 := hL1.symm
  subst hL1
  refine tm_aload_0 5 rfl dX1_spread_4 ?_
  refine tm_iload_2 6 rfl dX1_spread_5 ?_
  refine tm_iconst (0) rfl 7 rfl dX1_spread_6 ?_
  refine tm_callVr_V (ci := 0) (c_X1_meet (q := (0, fun _ => 0, fun _ => 0)) (e := c) (st := 0) hO1 (by omega) (fun _ => by decide)) mv_X1_meet ml_X1_28 rfl rfl rfl rfl rfl (Nat.le_of_ble_eq_true rfl) 10 rfl dX1_spread_7 (fun M2 L2 hQ => ?_)
  obtain ⟨hL1, hO2, hF2⟩ := hQ
  have hL1 := hL1.symm
  subst hL1
  refine tm_iconst (0) rfl 11 rfl dX1_spread_10 ?_
  refine tm_istore_3 (by decide) rfl 12 rfl dX1_spread_11 ?_
  refine (tm_loop (N := 768) (fun k => ∀ (Mx : MI), (orbR Mx (bfQ n c k) ∧ frO M Mx) → Tm g (d + 4) RX1 cX1_spread 4 none (QVr g (fun M' L' => L' = L ∧ orbR M' (orbF n c) ∧ frO M M')) 12 [some (rf g 46), some (.int (nI n)), some (.int (nI c)), some (.int (nI k))] [] Mx (L)) (fun k hk ih Mx hI => ?_) (fun Mx hI => ?_)) M2 ?_
  · refine tm_iload_3 13 rfl dX1_spread_12 ?_
    refine tm_sipush (768) (by decide) 16 rfl dX1_spread_13 ?_
    refine tm_icmp_ge_f 19 (nI_ge (b := 768) hk (by decide)) rfl rfl dX1_spread_16 ?_
    refine tm_iload_3 20 rfl dX1_spread_19 ?_
    refine tm_aload_0 21 rfl dX1_spread_20 ?_
    refine tm_geti fl_X1_21 rfl rfl 24 rfl dX1_spread_21 ?_
    have hqk := bf_ok h4 hc k
    have hq7 := q_768 hqk
    rw [hI.1.1]
    refine tm_icmp_ge 52 27 rfl rfl dX1_spread_24 (fun h24 => ?_) (fun h24 => ?_)
    · exact tm_vretR (by first | (have z : nI (bfQ n c k).1 ≤ nI k := h24; exact ⟨rfl, by rw [show orbF n c = bfQ n c k from (bf_end (by rw [fa_le, nI_toInt (by omega), nI_toInt (by omega)] at z; omega) (by omega)).symm]; exact hI.1, hI.2⟩) | exact ⟨rfl, hI.1, hI.2⟩) dX1_spread_52
    · have hks : k < (bfQ n c k).1 := by
        have z : ¬ nI (bfQ n c k).1 ≤ nI k := h24
        rw [fa_le, nI_toInt (by omega), nI_toInt (by omega)] at z
        omega
      refine tm_aload_0 28 rfl dX1_spread_27 ?_
      refine tm_iload_1 29 rfl dX1_spread_28 ?_
      refine tm_aload_0 30 rfl dX1_spread_29 ?_
      refine tm_getr fl_X1_15 rfl rfl 33 rfl dX1_spread_30 ?_
      refine tm_iload_3 34 rfl dX1_spread_33 ?_
      refine tm_ald rfl (ix := k) (ix_nI (by omega) (by decide)) 35 rfl dX1_spread_34 ?_
      rw [(hI.1.2.1 k hks).1]
      refine tm_aload_0 36 rfl dX1_spread_35 ?_
      refine tm_getr fl_X1_18 rfl rfl 39 rfl dX1_spread_36 ?_
      refine tm_iload_3 40 rfl dX1_spread_39 ?_
      refine tm_ald rfl (ix := k) (ix_nI (by omega) (by decide)) 41 rfl dX1_spread_40 ?_
      rw [(hI.1.2.1 k hks).2]
      refine tm_iconst (1) rfl 42 rfl dX1_spread_41 ?_
      refine tm_iadd 43 rfl dX1_spread_42 ?_
      rw [nI_1]
      refine tm_callVr_V (ci := 0) (c_X1_meetAllBeside (q := bfQ n c k) (e := (bfQ n c k).2.1 k) (st := (bfQ n c k).2.2 k + 1) h2 h4 hc hqk (hqk.2.1 k hks) (by have := hqk.2.2.2 k hks; omega) hI.1) mv_X1_meetAllBeside ml_X1_32 rfl rfl rfl rfl rfl (Nat.le_of_ble_eq_true rfl) 46 rfl dX1_spread_43 (fun M3 L3 hQ => ?_)
      obtain ⟨hL1, hO3, hF3⟩ := hQ
      have hL1 := hL1.symm
      subst hL1
      refine tm_iinc_3 (nI (k + 1)) (iinc1 k) (by decide) rfl 49 rfl dX1_spread_46 ?_
      refine tm_goto 12 rfl dX1_spread_49 ?_
      exact ih _ ⟨by rw [bf_y hks]; exact hO3, hI.2.tr hF3⟩
  · refine tm_iload_3 13 rfl dX1_spread_12 ?_
    refine tm_sipush (768) (by decide) 16 rfl dX1_spread_13 ?_
    refine tm_icmp_ge_t 52 (by decide) rfl dX1_spread_16 ?_
    exact tm_vretR (by first | (have z : nI (bfQ n c k).1 ≤ nI k := h24; exact ⟨rfl, by rw [show orbF n c = bfQ n c k from (bf_end (by rw [fa_le, nI_toInt (by omega), nI_toInt (by omega)] at z; omega) (by omega)).symm]; exact hI.1, hI.2⟩) | exact ⟨rfl, hI.1, hI.2⟩) dX1_spread_52
  · exact ⟨or_first hO2, hF1.tr hF2⟩

set_option maxRecDepth 100000 in
set_option maxHeartbeats 4000000 in
theorem c_X1_stepsTo {g : GC} {d : Nat} {M : MI} {L : ML} {n c e : Nat} {q : BQ} (hq : qOK n c q) (hO : orbR M q) (h4 : n ≤ 4) (he : e < 65536) : CfI g (d) yX1_stepsTo cX1_stepsTo 3 .int [rf g 46, .int (nI e)] M L (ansSt q e) (M) (L) := by
  have h7 := q_768 hq
  have h65 := p65 h4
  refine cfI_of (own := RX1) (l := [some (rf g 46), some (.int (nI e)), none]) 1 rfl rfl rfl (Nat.le_of_ble_eq_true rfl) ?_
  refine tm_iconst (0) rfl 1 rfl dX1_stepsTo_0 ?_
  refine tm_istore_2 (by decide) rfl 2 rfl dX1_stepsTo_1 ?_
  refine tm_loopE (N := q.1) (fun k => ∀ j, j < k → q.2.1 j ≠ e) (fun k => Tm g (d) RX1 cX1_stepsTo 3 (some .int) (QI g (ansSt q e) (M) (L)) 2 [some (rf g 46), some (.int (nI e)), some (.int (nI k))] [] (M) (L)) (fun u hu => absurd hu (by omega)) (fun k hk hP ih => ?_) (fun hPN => ?_)
  · refine tm_iload_2 3 rfl dX1_stepsTo_2 ?_
    refine tm_aload_0 4 rfl dX1_stepsTo_3 ?_
    refine tm_geti fl_X1_21 rfl rfl 7 rfl dX1_stepsTo_4 ?_
    rw [hO.1]
    refine tm_icmp_ge_f 10 (nI_ge hk (by omega)) rfl rfl dX1_stepsTo_7 ?_
    refine tm_aload_0 11 rfl dX1_stepsTo_10 ?_
    refine tm_getr fl_X1_15 rfl rfl 14 rfl dX1_stepsTo_11 ?_
    refine tm_iload_2 15 rfl dX1_stepsTo_14 ?_
    refine tm_ald rfl (ix := k) (ix_nI (by omega) (by decide)) 16 rfl dX1_stepsTo_15 ?_
    rw [(hO.2.1 k hk).1]
    refine tm_iload_1 17 rfl dX1_stepsTo_16 ?_
    refine tm_icmp_ne 27 20 rfl rfl dX1_stepsTo_17 (fun h17 => ?_) (fun h17 => ?_)
    · refine tm_iinc_2 (nI (k + 1)) (iinc1 k) (by decide) rfl 30 rfl dX1_stepsTo_27 ?_
      refine tm_goto 2 rfl dX1_stepsTo_30 ?_
      exact ih (lt_s1 hP (fun z => h17 (by rw [z])))
    · refine tm_aload_0 21 rfl dX1_stepsTo_20 ?_
      refine tm_getr fl_X1_18 rfl rfl 24 rfl dX1_stepsTo_21 ?_
      refine tm_iload_2 25 rfl dX1_stepsTo_24 ?_
      refine tm_ald rfl (ix := k) (ix_nI (by omega) (by decide)) 26 rfl dX1_stepsTo_25 ?_
      rw [(hO.2.1 k hk).2]
      exact tm_iret (st_at hk ((nI_eq (by have := fam_lt (hq.2.1 k hk); omega) (by omega)).mp h17) hP).symm rfl rfl dX1_stepsTo_26
  · refine tm_iload_2 3 rfl dX1_stepsTo_2 ?_
    refine tm_aload_0 4 rfl dX1_stepsTo_3 ?_
    refine tm_geti fl_X1_21 rfl rfl 7 rfl dX1_stepsTo_4 ?_
    rw [hO.1]
    refine tm_icmp_ge_t 33 (nI_le (Nat.le_refl _) (by omega)) rfl dX1_stepsTo_7 ?_
    refine tm_bipush (-5) (by decide) 35 rfl dX1_stepsTo_33 ?_
    exact tm_iret (by rw [sq_no]; cases m : memB q e; rfl; obtain ⟨i, h1, h3⟩ := mem_iff.mp m; exact absurd h3 (hPN i h1)) rfl rfl dX1_stepsTo_35


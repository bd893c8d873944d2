/-! the first state, and constructors' contracts -/
def s0 : Nat → Int32 := fun k => match k with
  | 0 => 3
  | 4 => 1
  | _ => 0
def t0 : Nat → Int32 := fun k => match k with
  | 0 => -1
  | _ => 0
def c0 : Nat → Int32 := fun k => match k with
  | 5 => 1000
  | _ => 0
def g0 : Nat → Int32 := upd (upd (upd (upd (upd (upd (upd (upd (fun _ => 0) 0 3) 1 0) 2 0) 3 1) 4 0) 5 0) 6 0) 7 0
def r0 : Nat → Int32 := upd (upd (upd (upd (upd (upd (fun _ => 0) 0 (-1)) 1 (-1)) 2 (-1)) 3 (-1)) 4 (-1)) 5 (-1)
def M0 : MI := fun i => match i with
  | 1 => s0
  | 12 => s0
  | 29 => t0
  | 31 => t0
  | 33 => t0
  | 35 => t0
  | 37 => t0
  | 39 => t0
  | 41 => c0
  | 55 => g0
  | 63 => r0
  | _ => fun _ => 0
def L0 : ML := fun _ _ => 0
def gU (g : GC) (u : Nat → Nat) : GC := (g.1, g.2.1, g.2.2.1, u, g.2.2.2.2)
def mk2 (g : GC) (n : Nat) (u : Nat → Nat) : va_W := [(u 0, .inr (1, [.ref (u 1), .ref (u 2), .int 0])), (u 1, .inl (gI g, n, .inl (fun _ => 0))), (u 2, .inl (gI g, n, .inl (fun _ => 0)))]
def mk4 (g : GC) (u : Nat → Nat) : va_W := [(u 0, .inr (3, [.int 3, .int 0, .int 0, .ref (u 1), .int 1, .ref (u 2), .ref (u 5), .ref (u 8)])), (u 1, .inl (gI g, 4, .inl (fun _ => 0))), (u 2, .inr (1, [.ref (u 3), .ref (u 4), .int 0])), (u 3, .inl (gI g, 6, .inl (fun _ => 0))), (u 4, .inl (gI g, 6, .inl (fun _ => 0))), (u 5, .inr (1, [.ref (u 6), .ref (u 7), .int 0])), (u 6, .inl (gI g, 8, .inl (fun _ => 0))), (u 7, .inl (gI g, 8, .inl (fun _ => 0))), (u 8, .inr (1, [.ref (u 9), .ref (u 10), .int 0])), (u 9, .inl (gI g, 8, .inl (fun _ => 0))), (u 10, .inl (gI g, 8, .inl (fun _ => 0)))]
def mk5 (g : GC) (u : Nat → Nat) : va_W := [(u 0, .inr (4, [.ref (u 1), .int 0, .int 0, .ref (u 2), .ref (u 3), .ref (u 4), .int 0])), (u 1, .inl (gI g, 100, .inl (fun _ => 0))), (u 2, .inl (gI g, 12, .inl (fun _ => 0))), (u 3, .inl (gI g, 12, .inl (fun _ => 0))), (u 4, .inl (gI g, 12, .inl (fun _ => 0)))]
def mk6 (g : GC) (u : Nat → Nat) : va_W := [(u 0, .inr (5, [.int (-1), .int 0, .ref (u 1)])), (u 1, .inl (gJ g, 60, .inr (.inl (fun _ => 0))))]
def mk3 (g : GC) (u : Nat → Nat) : va_W := [(u 0, .inr (2, [.ref (u 1), .int 0, .ref (u 2), .ref (u 3), .ref (u 4), .int 1000, .int 0, .int 0])), (u 1, .inl (gI g, 4, .inl (fun _ => 0))), (u 2, .inl (gI g, 4, .inl (fun _ => 0))), (u 3, .inl (gI g, 4, .inl (fun _ => 0))), (u 4, .inl (gI g, 4, .inl (fun _ => 0)))]
def mk1 (g : GC) (u : Nat → Nat) : va_W := [(u 0, .inr (0, [.ref (u 1), .ref (u 2), .ref (u 3), .int 0])), (u 1, .inl (gI g, 2048, .inl (fun _ => 0))), (u 2, .inl (gI g, 768, .inl (fun _ => 0))), (u 3, .inl (gI g, 768, .inl (fun _ => 0)))]
def mk7 (g : GC) (u : Nat → Nat) : va_W := [(u 0, .inr (6, [.int 0, .ref (u 1)])), (u 1, .inl (gI g, 4, .inl (fun _ => 0)))]
def mk8 (g : GC) (u : Nat → Nat) : va_W := [(u 0, .inr (7, [.ref (u 1)])), (u 1, .inl (gI g, 729, .inl (fun _ => 0)))]
theorem tc_n {g : GC} {own : String} {cc : ByteArray} {nL : Nat} {R : Room} {mc ms : Nat} {Qc : QC} {A : Nat → Prop} {pc : Nat} {l : List (Option Value)} {st : List Value} {w : va_W} {k n : Nat} (k2 n2 : Nat) (h1 : k2 = k) (h2 : n2 = n) (kk : Tc g own cc nL R mc ms Qc A pc l st w k2 n2) : Tc g own cc nL R mc ms Qc A pc l st w k n := by subst h1; subst h2; exact kk
def rm2 (n : Nat) : Room := { frames := 1, cells := 2, slots := n + n, locals := 20 }
def rm5 : Room := { frames := 1, cells := 4, slots := 136, locals := 20 }
def rm6 : Room := { frames := 1, cells := 1, slots := 60, locals := 20 }
def rm3 : Room := { frames := 1, cells := 4, slots := 16, locals := 20 }
def rm1 : Room := { frames := 1, cells := 3, slots := 3584, locals := 20 }
def rm7 : Room := { frames := 1, cells := 1, slots := 4, locals := 20 }
def rm8 : Room := { frames := 1, cells := 1, slots := 729, locals := 20 }
def rm4 : Room := { frames := 2, cells := 10, slots := 57, locals := 50 }
set_option maxRecDepth 100000 in
set_option maxHeartbeats 4000000 in
theorem c_X2_init {g : GC} {h0 sz : Nat} {n : Nat} (hn : n ≤ 100) : CZ g yX2_init cX2_init 2 (rm2 n) (.ref h0 :: [.int (nI n)]) [(h0, .inr (1, [.null, .null, .int 0]))] (mk2 g n) 0 h0 sz := by
  refine cz_of (own := RX2) (l := [some (.ref h0), some (.int (nI n))]) 0 rfl rfl rfl (Or.inr rfl) (Nat.le_of_ble_eq_true rfl) ?_
  refine tc_aload_0 1 rfl dX2_init_0 ?_
  refine tc_obj mo_X2 (Nat.le_of_ble_eq_true rfl) (Nat.le_of_ble_eq_true rfl) 4 rfl dX2_init_1 ?_
  refine tc_aload_0 5 rfl dX2_init_4 ?_
  refine tc_iconst (0) rfl 6 rfl dX2_init_5 ?_
  refine tc_puti fl_X2_7 fw_1_2 rfl rfl (Nat.le_of_ble_eq_true rfl) 9 rfl dX2_init_6 ?_
  refine tc_aload_0 10 rfl dX2_init_9 ?_
  refine tc_iload_1 11 rfl dX2_init_10 ?_
  refine tc_newi n (nI_pos (by omega)) (nI_clamp (by omega)) (by omega) (Nat.le_of_ble_eq_true rfl) (by show 0 + n ≤ n + n; omega) 13 rfl dX2_init_11 (fun q1 => ?_)
  refine tc_putr fl_X2_13 ff_1_0 rfl rfl (Nat.le_of_ble_eq_true rfl) (by decide) 16 rfl dX2_init_13 ?_
  refine tc_aload_0 17 rfl dX2_init_16 ?_
  refine tc_iload_1 18 rfl dX2_init_17 ?_
  refine tc_newi n (nI_pos (by omega)) (nI_clamp (by omega)) (by omega) (Nat.le_of_ble_eq_true rfl) (by show 0 + n + n ≤ n + n; omega) 20 rfl dX2_init_18 (fun q2 => ?_)
  refine tc_putr fl_X2_17 ff_1_1 rfl rfl (Nat.le_of_ble_eq_true rfl) (by decide) 23 rfl dX2_init_20 ?_
  refine tc_n 2 (n + n) rfl (by omega) ?_
  exact tc_vret (mk := mk2 g n) (b := 0) (fun i => [h0, q1, q2].getD i 0) [0, 1, 2] rfl rfl rfl (by decide) dX2_init_23
set_option maxRecDepth 100000 in
set_option maxHeartbeats 4000000 in
theorem c_X5_init {g : GC} {h0 sz : Nat} : CZ g yX5_init cX5_init 1 (rm5) (.ref h0 :: []) [(h0, .inr (4, [.null, .int 0, .int 0, .null, .null, .null, .int 0]))] (mk5 g) 0 h0 sz := by
  refine cz_of (own := RX5) (l := [some (.ref h0)]) 0 rfl rfl rfl (Or.inr rfl) (Nat.le_of_ble_eq_true rfl) ?_
  refine tc_aload_0 1 rfl dX5_init_0 ?_
  refine tc_obj mo_X5 (Nat.le_of_ble_eq_true rfl) (Nat.le_of_ble_eq_true rfl) 4 rfl dX5_init_1 ?_
  refine tc_aload_0 5 rfl dX5_init_4 ?_
  refine tc_bipush (100) (by decide) 7 rfl dX5_init_5 ?_
  refine tc_newi 100 (by decide) (by decide) (Nat.le_of_ble_eq_true rfl) (Nat.le_of_ble_eq_true rfl) (Nat.le_of_ble_eq_true rfl) 9 rfl dX5_init_7 (fun q1 => ?_)
  refine tc_putr fl_X5_9 ff_4_0 rfl rfl (Nat.le_of_ble_eq_true rfl) (by decide) 12 rfl dX5_init_9 ?_
  refine tc_aload_0 13 rfl dX5_init_12 ?_
  refine tc_iconst (0) rfl 14 rfl dX5_init_13 ?_
  refine tc_puti fl_X5_13 fw_4_1 rfl rfl (Nat.le_of_ble_eq_true rfl) 17 rfl dX5_init_14 ?_
  refine tc_aload_0 18 rfl dX5_init_17 ?_
  refine tc_iconst (0) rfl 19 rfl dX5_init_18 ?_
  refine tc_puti fl_X5_17 fw_4_2 rfl rfl (Nat.le_of_ble_eq_true rfl) 22 rfl dX5_init_19 ?_
  refine tc_aload_0 23 rfl dX5_init_22 ?_
  refine tc_bipush (12) (by decide) 25 rfl dX5_init_23 ?_
  refine tc_newi 12 (by decide) (by decide) (Nat.le_of_ble_eq_true rfl) (Nat.le_of_ble_eq_true rfl) (Nat.le_of_ble_eq_true rfl) 27 rfl dX5_init_25 (fun q2 => ?_)
  refine tc_putr fl_X5_20 ff_4_3 rfl rfl (Nat.le_of_ble_eq_true rfl) (by decide) 30 rfl dX5_init_27 ?_
  refine tc_aload_0 31 rfl dX5_init_30 ?_
  refine tc_bipush (12) (by decide) 33 rfl dX5_init_31 ?_
  refine tc_newi 12 (by decide) (by decide) (Nat.le_of_ble_eq_true rfl) (Nat.le_of_ble_eq_true rfl) (Nat.le_of_ble_eq_true rfl) 35 rfl dX5_init_33 (fun q3 => ?_)
  refine tc_putr fl_X5_23 ff_4_4 rfl rfl (Nat.le_of_ble_eq_true rfl) (by decide) 38 rfl dX5_init_35 ?_
  refine tc_aload_0 39 rfl dX5_init_38 ?_
  refine tc_bipush (12) (by decide) 41 rfl dX5_init_39 ?_
  refine tc_newi 12 (by decide) (by decide) (Nat.le_of_ble_eq_true rfl) (Nat.le_of_ble_eq_true rfl) (Nat.le_of_ble_eq_true rfl) 43 rfl dX5_init_41 (fun q4 => ?_)
  refine tc_putr fl_X5_26 ff_4_5 rfl rfl (Nat.le_of_ble_eq_true rfl) (by decide) 46 rfl dX5_init_43 ?_
  refine tc_aload_0 47 rfl dX5_init_46 ?_
  refine tc_iconst (0) rfl 48 rfl dX5_init_47 ?_
  refine tc_puti fl_X5_29 fw_4_6 rfl rfl (Nat.le_of_ble_eq_true rfl) 51 rfl dX5_init_48 ?_
  exact tc_vret (mk := mk5 g) (b := 0) (fun i => [h0, q1, q2, q3, q4].getD i 0) [0, 1, 2, 3, 4] rfl rfl rfl (by decide) dX5_init_51
set_option maxRecDepth 100000 in
set_option maxHeartbeats 4000000 in
theorem c_X6_init {g : GC} {h0 sz : Nat} : CZ g yX6_init cX6_init 1 (rm6) (.ref h0 :: []) [(h0, .inr (5, [.int 0, .int 0, .null]))] (mk6 g) 0 h0 sz := by
  refine cz_of (own := RX6) (l := [some (.ref h0)]) 0 rfl rfl rfl (Or.inr rfl) (Nat.le_of_ble_eq_true rfl) ?_
  refine tc_aload_0 1 rfl dX6_init_0 ?_
  refine tc_obj mo_X6 (Nat.le_of_ble_eq_true rfl) (Nat.le_of_ble_eq_true rfl) 4 rfl dX6_init_1 ?_
  refine tc_aload_0 5 rfl dX6_init_4 ?_
  refine tc_iconst (-1) rfl 6 rfl dX6_init_5 ?_
  refine tc_puti fl_X6_9 fw_5_0 rfl rfl (Nat.le_of_ble_eq_true rfl) 9 rfl dX6_init_6 ?_
  refine tc_aload_0 10 rfl dX6_init_9 ?_
  refine tc_iconst (0) rfl 11 rfl dX6_init_10 ?_
  refine tc_puti fl_X6_13 fw_5_1 rfl rfl (Nat.le_of_ble_eq_true rfl) 14 rfl dX6_init_11 ?_
  refine tc_aload_0 15 rfl dX6_init_14 ?_
  refine tc_bipush (60) (by decide) 17 rfl dX6_init_15 ?_
  refine tc_newl 60 (by decide) (by decide) (Nat.le_of_ble_eq_true rfl) (Nat.le_of_ble_eq_true rfl) (Nat.le_of_ble_eq_true rfl) 19 rfl dX6_init_17 (fun q1 => ?_)
  refine tc_putr fl_X6_16 ff_5_2 rfl rfl (Nat.le_of_ble_eq_true rfl) (by decide) 22 rfl dX6_init_19 ?_
  exact tc_vret (mk := mk6 g) (b := 0) (fun i => [h0, q1].getD i 0) [0, 1] rfl rfl rfl (by decide) dX6_init_22
set_option maxRecDepth 100000 in
set_option maxHeartbeats 4000000 in
theorem c_X3_init {g : GC} {h0 sz : Nat} : CZ g yX3_init cX3_init 1 (rm3) (.ref h0 :: []) [(h0, .inr (2, [.null, .int 0, .null, .null, .null, .int 0, .int 0, .int 0]))] (mk3 g) 0 h0 sz := by
  refine cz_of (own := RX3) (l := [some (.ref h0)]) 0 rfl rfl rfl (Or.inr rfl) (Nat.le_of_ble_eq_true rfl) ?_
  refine tc_aload_0 1 rfl dX3_init_0 ?_
  refine tc_obj mo_X3 (Nat.le_of_ble_eq_true rfl) (Nat.le_of_ble_eq_true rfl) 4 rfl dX3_init_1 ?_
  refine tc_aload_0 5 rfl dX3_init_4 ?_
  refine tc_iconst (4) rfl 6 rfl dX3_init_5 ?_
  refine tc_newi 4 (by decide) (by decide) (Nat.le_of_ble_eq_true rfl) (Nat.le_of_ble_eq_true rfl) (Nat.le_of_ble_eq_true rfl) 8 rfl dX3_init_6 (fun q1 => ?_)
  refine tc_putr fl_X3_9 ff_2_0 rfl rfl (Nat.le_of_ble_eq_true rfl) (by decide) 11 rfl dX3_init_8 ?_
  refine tc_aload_0 12 rfl dX3_init_11 ?_
  refine tc_iconst (0) rfl 13 rfl dX3_init_12 ?_
  refine tc_puti fl_X3_15 fw_2_1 rfl rfl (Nat.le_of_ble_eq_true rfl) 16 rfl dX3_init_13 ?_
  refine tc_aload_0 17 rfl dX3_init_16 ?_
  refine tc_iconst (4) rfl 18 rfl dX3_init_17 ?_
  refine tc_newi 4 (by decide) (by decide) (Nat.le_of_ble_eq_true rfl) (Nat.le_of_ble_eq_true rfl) (Nat.le_of_ble_eq_true rfl) 20 rfl dX3_init_18 (fun q2 => ?_)
  refine tc_putr fl_X3_19 ff_2_2 rfl rfl (Nat.le_of_ble_eq_true rfl) (by decide) 23 rfl dX3_init_20 ?_
  refine tc_aload_0 24 rfl dX3_init_23 ?_
  refine tc_iconst (4) rfl 25 rfl dX3_init_24 ?_
  refine tc_newi 4 (by decide) (by decide) (Nat.le_of_ble_eq_true rfl) (Nat.le_of_ble_eq_true rfl) (Nat.le_of_ble_eq_true rfl) 27 rfl dX3_init_25 (fun q3 => ?_)
  refine tc_putr fl_X3_22 ff_2_3 rfl rfl (Nat.le_of_ble_eq_true rfl) (by decide) 30 rfl dX3_init_27 ?_
  refine tc_aload_0 31 rfl dX3_init_30 ?_
  refine tc_iconst (4) rfl 32 rfl dX3_init_31 ?_
  refine tc_newi 4 (by decide) (by decide) (Nat.le_of_ble_eq_true rfl) (Nat.le_of_ble_eq_true rfl) (Nat.le_of_ble_eq_true rfl) 34 rfl dX3_init_32 (fun q4 => ?_)
  refine tc_putr fl_X3_25 ff_2_4 rfl rfl (Nat.le_of_ble_eq_true rfl) (by decide) 37 rfl dX3_init_34 ?_
  refine tc_aload_0 38 rfl dX3_init_37 ?_
  refine tc_sipush (1000) (by decide) 41 rfl dX3_init_38 ?_
  refine tc_puti fl_X3_28 fw_2_5 rfl rfl (Nat.le_of_ble_eq_true rfl) 44 rfl dX3_init_41 ?_
  refine tc_aload_0 45 rfl dX3_init_44 ?_
  refine tc_iconst (0) rfl 46 rfl dX3_init_45 ?_
  refine tc_puti fl_X3_31 fw_2_6 rfl rfl (Nat.le_of_ble_eq_true rfl) 49 rfl dX3_init_46 ?_
  refine tc_aload_0 50 rfl dX3_init_49 ?_
  refine tc_iconst (0) rfl 51 rfl dX3_init_50 ?_
  refine tc_puti fl_X3_34 fw_2_7 rfl rfl (Nat.le_of_ble_eq_true rfl) 54 rfl dX3_init_51 ?_
  exact tc_vret (mk := mk3 g) (b := 0) (fun i => [h0, q1, q2, q3, q4].getD i 0) [0, 1, 2, 3, 4] rfl rfl rfl (by decide) dX3_init_54
set_option maxRecDepth 100000 in
set_option maxHeartbeats 4000000 in
theorem c_X1_init {g : GC} {h0 sz : Nat} : CZ g yX1_init cX1_init 1 (rm1) (.ref h0 :: []) [(h0, .inr (0, [.null, .null, .null, .int 0]))] (mk1 g) 0 h0 sz := by
  refine cz_of (own := RX1) (l := [some (.ref h0)]) 0 rfl rfl rfl (Or.inr rfl) (Nat.le_of_ble_eq_true rfl) ?_
  refine tc_aload_0 1 rfl dX1_init_0 ?_
  refine tc_obj mo_X1 (Nat.le_of_ble_eq_true rfl) (Nat.le_of_ble_eq_true rfl) 4 rfl dX1_init_1 ?_
  refine tc_aload_0 5 rfl dX1_init_4 ?_
  refine tc_sipush (2048) (by decide) 8 rfl dX1_init_5 ?_
  refine tc_newi 2048 (by decide) (by decide) (Nat.le_of_ble_eq_true rfl) (Nat.le_of_ble_eq_true rfl) (Nat.le_of_ble_eq_true rfl) 10 rfl dX1_init_8 (fun q1 => ?_)
  refine tc_putr fl_X1_11 ff_0_0 rfl rfl (Nat.le_of_ble_eq_true rfl) (by decide) 13 rfl dX1_init_10 ?_
  refine tc_aload_0 14 rfl dX1_init_13 ?_
  refine tc_sipush (768) (by decide) 17 rfl dX1_init_14 ?_
  refine tc_newi 768 (by decide) (by decide) (Nat.le_of_ble_eq_true rfl) (Nat.le_of_ble_eq_true rfl) (Nat.le_of_ble_eq_true rfl) 19 rfl dX1_init_17 (fun q2 => ?_)
  refine tc_putr fl_X1_15 ff_0_1 rfl rfl (Nat.le_of_ble_eq_true rfl) (by decide) 22 rfl dX1_init_19 ?_
  refine tc_aload_0 23 rfl dX1_init_22 ?_
  refine tc_sipush (768) (by decide) 26 rfl dX1_init_23 ?_
  refine tc_newi 768 (by decide) (by decide) (Nat.le_of_ble_eq_true rfl) (Nat.le_of_ble_eq_true rfl) (Nat.le_of_ble_eq_true rfl) 28 rfl dX1_init_26 (fun q3 => ?_)
  refine tc_putr fl_X1_18 ff_0_2 rfl rfl (Nat.le_of_ble_eq_true rfl) (by decide) 31 rfl dX1_init_28 ?_
  refine tc_aload_0 32 rfl dX1_init_31 ?_
  refine tc_iconst (0) rfl 33 rfl dX1_init_32 ?_
  refine tc_puti fl_X1_21 fw_0_3 rfl rfl (Nat.le_of_ble_eq_true rfl) 36 rfl dX1_init_33 ?_
  exact tc_vret (mk := mk1 g) (b := 0) (fun i => [h0, q1, q2, q3].getD i 0) [0, 1, 2, 3] rfl rfl rfl (by decide) dX1_init_36
set_option maxRecDepth 100000 in
set_option maxHeartbeats 4000000 in
theorem c_X7_init {g : GC} {h0 sz : Nat} : CZ g yX7_init cX7_init 1 (rm7) (.ref h0 :: []) [(h0, .inr (6, [.int 0, .null]))] (mk7 g) 0 h0 sz := by
  refine cz_of (own := RX7) (l := [some (.ref h0)]) 0 rfl rfl rfl (Or.inr rfl) (Nat.le_of_ble_eq_true rfl) ?_
  refine tc_aload_0 1 rfl dX7_init_0 ?_
  refine tc_obj mo_X7 (Nat.le_of_ble_eq_true rfl) (Nat.le_of_ble_eq_true rfl) 4 rfl dX7_init_1 ?_
  refine tc_aload_0 5 rfl dX7_init_4 ?_
  refine tc_iconst (0) rfl 6 rfl dX7_init_5 ?_
  refine tc_puti fl_X7_7 fw_6_0 rfl rfl (Nat.le_of_ble_eq_true rfl) 9 rfl dX7_init_6 ?_
  refine tc_aload_0 10 rfl dX7_init_9 ?_
  refine tc_iconst (4) rfl 11 rfl dX7_init_10 ?_
  refine tc_newi 4 (by decide) (by decide) (Nat.le_of_ble_eq_true rfl) (Nat.le_of_ble_eq_true rfl) (Nat.le_of_ble_eq_true rfl) 13 rfl dX7_init_11 (fun q1 => ?_)
  refine tc_putr fl_X7_13 ff_6_1 rfl rfl (Nat.le_of_ble_eq_true rfl) (by decide) 16 rfl dX7_init_13 ?_
  exact tc_vret (mk := mk7 g) (b := 0) (fun i => [h0, q1].getD i 0) [0, 1] rfl rfl rfl (by decide) dX7_init_16
set_option maxRecDepth 100000 in
set_option maxHeartbeats 4000000 in
theorem c_X8_init {g : GC} {h0 sz : Nat} : CZ g yX8_init cX8_init 1 (rm8) (.ref h0 :: []) [(h0, .inr (7, [.null]))] (mk8 g) 0 h0 sz := by
  refine cz_of (own := RX8) (l := [some (.ref h0)]) 0 rfl rfl rfl (Or.inr rfl) (Nat.le_of_ble_eq_true rfl) ?_
  refine tc_aload_0 1 rfl dX8_init_0 ?_
  refine tc_obj mo_X8 (Nat.le_of_ble_eq_true rfl) (Nat.le_of_ble_eq_true rfl) 4 rfl dX8_init_1 ?_
  refine tc_aload_0 5 rfl dX8_init_4 ?_
  refine tc_sipush (729) (by decide) 8 rfl dX8_init_5 ?_
  refine tc_newi 729 (by decide) (by decide) (Nat.le_of_ble_eq_true rfl) (Nat.le_of_ble_eq_true rfl) (Nat.le_of_ble_eq_true rfl) 10 rfl dX8_init_8 (fun q1 => ?_)
  refine tc_putr fl_X8_9 ff_7_0 rfl rfl (Nat.le_of_ble_eq_true rfl) (by decide) 13 rfl dX8_init_10 ?_
  exact tc_vret (mk := mk8 g) (b := 0) (fun i => [h0, q1].getD i 0) [0, 1] rfl rfl rfl (by decide) dX8_init_13
set_option maxRecDepth 100000 in
set_option maxHeartbeats 4000000 in
theorem c_X4_init {g : GC} {h0 sz : Nat} : CZ g yX4_init cX4_init 1 (rm4) (.ref h0 :: []) [(h0, .inr (3, [.int 0, .int 0, .int 0, .null, .int 0, .null, .null, .null]))] (mk4 g) 0 h0 sz := by
  refine cz_of (own := RX4) (l := [some (.ref h0)]) 0 rfl rfl rfl (Or.inr rfl) (Nat.le_of_ble_eq_true rfl) ?_
  refine tc_aload_0 1 rfl dX4_init_0 ?_
  refine tc_obj mo_X4 (Nat.le_of_ble_eq_true rfl) (Nat.le_of_ble_eq_true rfl) 4 rfl dX4_init_1 ?_
  refine tc_aload_0 5 rfl dX4_init_4 ?_
  refine tc_iconst (3) rfl 6 rfl dX4_init_5 ?_
  refine tc_puti fl_X4_9 fw_3_0 rfl rfl (Nat.le_of_ble_eq_true rfl) 9 rfl dX4_init_6 ?_
  refine tc_aload_0 10 rfl dX4_init_9 ?_
  refine tc_iconst (0) rfl 11 rfl dX4_init_10 ?_
  refine tc_puti fl_X4_15 fw_3_1 rfl rfl (Nat.le_of_ble_eq_true rfl) 14 rfl dX4_init_11 ?_
  refine tc_aload_0 15 rfl dX4_init_14 ?_
  refine tc_iconst (0) rfl 16 rfl dX4_init_15 ?_
  refine tc_puti fl_X4_18 fw_3_2 rfl rfl (Nat.le_of_ble_eq_true rfl) 19 rfl dX4_init_16 ?_
  refine tc_aload_0 20 rfl dX4_init_19 ?_
  refine tc_iconst (4) rfl 21 rfl dX4_init_20 ?_
  refine tc_newi 4 (by decide) (by decide) (Nat.le_of_ble_eq_true rfl) (Nat.le_of_ble_eq_true rfl) (Nat.le_of_ble_eq_true rfl) 23 rfl dX4_init_21 (fun q1 => ?_)
  refine tc_putr fl_X4_21 ff_3_3 rfl rfl (Nat.le_of_ble_eq_true rfl) (by decide) 26 rfl dX4_init_23 ?_
  refine tc_aload_0 27 rfl dX4_init_26 ?_
  refine tc_iconst (1) rfl 28 rfl dX4_init_27 ?_
  refine tc_puti fl_X4_25 fw_3_4 rfl rfl (Nat.le_of_ble_eq_true rfl) 31 rfl dX4_init_28 ?_
  refine tc_aload_0 32 rfl dX4_init_31 ?_
  refine tc_new (ci := 1) (N := 3) (fs := [.null, .null, .int 0]) rfl inU_X2 tyX2_ok cl_X4_28 it_X2 ini_X2 zf_X2 (Nat.le_of_ble_eq_true rfl) (Nat.le_of_ble_eq_true rfl) 35 rfl dX4_init_32 (fun q2 => ?_)
  refine tc_dup rfl 36 rfl dX4_init_35 ?_
  refine tc_bipush (6) (by decide) 38 rfl dX4_init_36 ?_
  refine tc_callI (b := 0) (As := [.int (nI 6)]) (R1 := rm2 6) (mk := mk2 g 6) (fun sz => c_X2_init (n := 6) (by decide)) mi_X2 ml_X4_30 rfl rfl (Nat.le_of_ble_eq_true rfl) ⟨(Nat.le_of_ble_eq_true rfl), (Nat.le_of_ble_eq_true rfl)⟩ (Nat.le_of_ble_eq_true rfl) (Nat.le_of_ble_eq_true rfl) 41 rfl dX4_init_38 (fun u1 hu1 => ?_)
  subst hu1
  refine tc_putr fl_X4_33 ff_3_5 rfl rfl (Nat.le_of_ble_eq_true rfl) (by decide) 44 rfl dX4_init_41 ?_
  refine tc_aload_0 45 rfl dX4_init_44 ?_
  refine tc_new (ci := 1) (N := 3) (fs := [.null, .null, .int 0]) rfl inU_X2 tyX2_ok cl_X4_28 it_X2 ini_X2 zf_X2 (Nat.le_of_ble_eq_true rfl) (Nat.le_of_ble_eq_true rfl) 48 rfl dX4_init_45 (fun q3 => ?_)
  refine tc_dup rfl 49 rfl dX4_init_48 ?_
  refine tc_bipush (8) (by decide) 51 rfl dX4_init_49 ?_
  refine tc_callI (b := 0) (As := [.int (nI 8)]) (R1 := rm2 8) (mk := mk2 g 8) (fun sz => c_X2_init (n := 8) (by decide)) mi_X2 ml_X4_30 rfl rfl (Nat.le_of_ble_eq_true rfl) ⟨(Nat.le_of_ble_eq_true rfl), (Nat.le_of_ble_eq_true rfl)⟩ (Nat.le_of_ble_eq_true rfl) (Nat.le_of_ble_eq_true rfl) 54 rfl dX4_init_51 (fun u2 hu2 => ?_)
  subst hu2
  refine tc_putr fl_X4_37 ff_3_6 rfl rfl (Nat.le_of_ble_eq_true rfl) (by decide) 57 rfl dX4_init_54 ?_
  refine tc_aload_0 58 rfl dX4_init_57 ?_
  refine tc_new (ci := 1) (N := 3) (fs := [.null, .null, .int 0]) rfl inU_X2 tyX2_ok cl_X4_28 it_X2 ini_X2 zf_X2 (Nat.le_of_ble_eq_true rfl) (Nat.le_of_ble_eq_true rfl) 61 rfl dX4_init_58 (fun q4 => ?_)
  refine tc_dup rfl 62 rfl dX4_init_61 ?_
  refine tc_bipush (8) (by decide) 64 rfl dX4_init_62 ?_
  refine tc_callI (b := 0) (As := [.int (nI 8)]) (R1 := rm2 8) (mk := mk2 g 8) (fun sz => c_X2_init (n := 8) (by decide)) mi_X2 ml_X4_30 rfl rfl (Nat.le_of_ble_eq_true rfl) ⟨(Nat.le_of_ble_eq_true rfl), (Nat.le_of_ble_eq_true rfl)⟩ (Nat.le_of_ble_eq_true rfl) (Nat.le_of_ble_eq_true rfl) 67 rfl dX4_init_64 (fun u3 hu3 => ?_)
  subst hu3
  refine tc_putr fl_X4_40 ff_3_7 rfl rfl (Nat.le_of_ble_eq_true rfl) (by decide) 70 rfl dX4_init_67 ?_
  exact tc_vret (mk := mk4 g) (b := 0) (fun i => [h0, q1, u1 0, u1 1, u1 2, u2 0, u2 1, u2 2, u3 0, u3 1, u3 2].getD i 0) [0, 1, 2, 3, 4, 5, 6, 7, 8, 9, 10] rfl rfl rfl (by decide) dX4_init_70

/-! the class's own constructor -/
section Make2
variable {g : GC} {own : String} {cc : ByteArray} {nL : Nat} {R : Room} {mc ms : Nat} {Qc : QC} {A : Nat → Prop} {pc : Nat} {l : List (Option Value)} {st : List Value} {w : va_W} {k n : Nat}
theorem tc_getr {index ci kf h0 : Nat} {fs : List Value} {tl : va_W} {v : Value} (hf : FL own index ci kf) (hv : fs[kf]? = some v) (n2 : Nat) (hn : pc + 3 = n2) (hdg : decode cc pc = .ok (.getfield index, 3)) (kk : Tc g own cc nL R mc ms Qc A n2 l (v :: st) ((h0, .inr (ci, fs)) :: tl) k n) : Tc g own cc nL R mc ms Qc A pc l (.ref h0 :: st) ((h0, .inr (ci, fs)) :: tl) k n := by
  subst hn
  intro p e s m args below meth c H locs ls C hl hP hD hS
  obtain ⟨Cn, Tn, N, ty0, h1, h2, h3, h4, h5, h6⟩ := hf
  exact va_get C.1 C.2.1 C.2.2.2.2.2.1 h2 C.2.2.2.2.1 C.2.2.2.2.2.2.2.1.1 hP 0 rfl h1 kf h3 (C.2.2.2.2.2.1 _ h4) (fun _ h9 => h9) hv hdg (kk p e s m args below meth c H locs ls C hl hP hD hS)
theorem tc_istore_1 {a0 b : Option Value} {r : List (Option Value)} {x : Int32} (hk : 1 < nL) (h2 : n2 a0 = true) (m2 : Nat) (hn : pc + 1 = m2) (hdg : decode cc pc = .ok (.istore_n 1, 1)) (kk : Tc g own cc nL R mc ms Qc A m2 (a0 :: some (.int x) :: r) st w k n) : Tc g own cc nL R mc ms Qc A pc (a0 :: b :: r) (.int x :: st) w k n := by
  subst hn
  intro p e s m args below meth c H locs ls C hl hP hD hS
  refine lv_istore_n C.1 C.2.1 hdg (i := 1) rfl hl.has hk rfl (fun ls' h' => kk p e s m args below meth c H locs ls' C (PL.put (keeps_set (l := a0 :: b :: r) (i := 1) (v := .int x) (fun j w e q => by
    have : j = 0 := by omega
    subst this
    have q' : a0 = some w := by simpa using q
    subst q'
    exact n2_not h2)) h') hP hD hS)
theorem tc_iinc_1 {a0 : Option Value} {r : List (Option Value)} {x : Int32} {z : Int} (v : Int32) (hv : x + Int32.ofInt z = v) (hk : 1 < nL) (h2 : n2 a0 = true) (m2 : Nat) (hn : pc + 3 = m2) (hdg : decode cc pc = .ok (.iinc 1 z, 3)) (kk : Tc g own cc nL R mc ms Qc A m2 (a0 :: some (.int v) :: r) st w k n) : Tc g own cc nL R mc ms Qc A pc (a0 :: some (.int x) :: r) st w k n := by
  subst hn
  intro p e s m args below meth c H locs ls C hl hP hD hS
  obtain ⟨k9, hkk⟩ := List.mem_iff_getElem?.mp ((alF_mem (a0 :: some (.int x) :: r) 0 1 (.int x)).mpr ⟨Nat.zero_le _, rfl⟩)
  refine lv_iinc (v := v) C.1 C.2.1 hdg hl.has hkk hv hk rfl (fun ls' h' => kk p e s m args below meth c H locs ls' C (PL.put (keeps_set (l := a0 :: some (.int x) :: r) (i := 1) (v := .int v) (fun j w e q => by
    have : j = 0 := by omega
    subst this
    have q' : a0 = some w := by simpa using q
    subst q'
    exact n2_not h2)) h') hP hD hS)
theorem tc_goto {off : Int} (tgt : Nat) (ht : (pc : Int) + off = (tgt : Int)) (hdg : decode cc pc = .ok (.goto off, 3)) (kk : Tc g own cc nL R mc ms Qc A tgt l st w k n) : Tc g own cc nL R mc ms Qc A pc l st w k n := fun p e s m args below meth c H locs ls C hl hP hD hS => lv_goto C.1 C.2.1 hdg ht (kk p e s m args below meth c H locs ls C hl hP hD hS)
theorem tc_ge_f {x y : Int32} {off : Int} (m2 : Nat) {tgt : Nat} (h : ¬ y ≤ x) (ht : (pc : Int) + off = (tgt : Int)) (hn : pc + 3 = m2) (hdg : decode cc pc = .ok (.if_icmp .ge off, 3)) (kk : Tc g own cc nL R mc ms Qc A m2 l st w k n) : Tc g own cc nL R mc ms Qc A pc l (.int y :: .int x :: st) w k n := by
  subst hn
  exact fun p e s m args below meth c H locs ls C hl hP hD hS => lv_icmp_ge C.1 C.2.1 hdg ht (fun q => absurd q h) (fun _ => kk p e s m args below meth c H locs ls C hl hP hD hS)
theorem tc_ge_t {x y : Int32} {off : Int} (tgt : Nat) (h : y ≤ x) (ht : (pc : Int) + off = (tgt : Int)) (hdg : decode cc pc = .ok (.if_icmp .ge off, 3)) (kk : Tc g own cc nL R mc ms Qc A tgt l st w k n) : Tc g own cc nL R mc ms Qc A pc l (.int y :: .int x :: st) w k n :=
  fun p e s m args below meth c H locs ls C hl hP hD hS => lv_icmp_ge C.1 C.2.1 hdg ht (fun _ => kk p e s m args below meth c H locs ls C hl hP hD hS) (fun q => absurd h q)
theorem tc_aast {N v a ix : Nat} {i : Int32} {f : Nat → Option Nat} {vs : List Value} (q0 qk : Nat) (ha : w[q0]? = some (a, .inl (gT g, N, .inr (.inr (.inr (.inr f)))))) (hv : w[qk]? = some (v, .inr (5, vs))) (hx : ixI i N ix) (m2 : Nat) (hn : pc + 1 = m2) (hdg : decode cc pc = .ok (.aastore, 1)) (kk : Tc g own cc nL R mc ms Qc A m2 l st (w.set q0 (a, .inl (gT g, N, .inr (.inr (.inr (.inr (va_up f ix (some v)))))))) k n) : Tc g own cc nL R mc ms Qc A pc l (.ref v :: .int i :: .ref a :: st) w k n := by
  subst hn
  intro p e s m args below meth c H locs ls C hl hP hD hS
  refine va_astq (r := (RX6, TX6, 3)) C.1 C.2.1 C.2.2.2.2.2.2.2.1.1 hP hD hS q0 2 qk 5 ha rfl hv rfl hx.vp hdg (fun H1 locs1 hP1 hD1 hS1 => ?_)
  rw [hx.2.1] at hP1 hD1
  exact kk p e s m args below meth c H1 locs1 ls C hl hP1 hD1 hS1
theorem tc_setf {N a : Nat} {f f2 : Nat → Option Nat} (q0 : Nat) (ha : w[q0]? = some (a, .inl (gT g, N, .inr (.inr (.inr (.inr f)))))) (hf : f = f2) (kk : Tc g own cc nL R mc ms Qc A pc l st (w.set q0 (a, .inl (gT g, N, .inr (.inr (.inr (.inr f2)))))) k n) : Tc g own cc nL R mc ms Qc A pc l st w k n := by
  subst hf
  have e : w.set q0 (a, .inl (gT g, N, .inr (.inr (.inr (.inr f))))) = w := by
    apply List.ext_getElem?
    intro i
    rw [List.getElem?_set]
    by_cases h : q0 = i
    · subst h
      rw [if_pos rfl, if_pos (List.getElem?_eq_some_iff.mp ha).1, ha]
    · rw [if_neg h]
  rw [e] at kk
  exact kk
end Make2
theorem tp_fun (u : Nat → Nat) : va_up (va_up (va_up (va_up (va_up (va_up (fun _ => none) 0 (some (u 29))) 1 (some (u 31))) 2 (some (u 33))) 3 (some (u 35))) 4 (some (u 37))) 5 (some (u 39)) = fun k => (([29, 31, 33, 35, 37, 39] : List Nat)[k]?).map u := by
  funext k
  match k with
  | 0 => rfl
  | 1 => rfl
  | 2 => rfl
  | 3 => rfl
  | 4 => rfl
  | 5 => rfl
  | k + 6 => simp [va_up]
def rm9 : Room := { frames := 3, cells := 53, slots := 5005, locals := 80 }
theorem tape_step {g : GC} {h0 tq t : Nat} {fs : List Value} {X B : va_W} {f : Nat → Option Nat} {mc ms : Nat} {Qc : QC} {A : Nat → Prop} {k n : Nat} (ht : t < 6) (hfs : fs[4]? = some (.ref tq)) (hc : k + 2 ≤ 53) (hs : n + 63 ≤ 5005) (kk : ∀ u : Nat → Nat, Tc g RX9 cX9_init 2 rm9 mc ms Qc A 97 [some (.ref h0), some (.int (nI (t + 1)))] [] ((h0, .inr (8, fs)) :: (X ++ (tq, .inl (gT g, 6, .inr (.inr (.inr (.inr (va_up f t (some (u 0)))))))) :: (B ++ mk6 g u))) (k + 1 + 1) (n + 3 + 60)) : Tc g RX9 cX9_init 2 rm9 mc ms Qc A 97 [some (.ref h0), some (.int (nI t))] [] ((h0, .inr (8, fs)) :: (X ++ (tq, .inl (gT g, 6, .inr (.inr (.inr (.inr f))))) :: B)) k n := by
  refine tc_iload_1 98 rfl dX9_init_97 ?_
  refine tc_bipush (6) (by decide) 100 rfl dX9_init_98 ?_
  refine tc_ge_f 103 (nI_ge (b := 6) ht (by decide)) rfl rfl dX9_init_100 ?_
  refine tc_aload_0 104 rfl dX9_init_103 ?_
  refine tc_getr fl_X9_34 hfs 107 rfl dX9_init_104 ?_
  refine tc_iload_1 108 rfl dX9_init_107 ?_
  refine tc_new (ci := 5) (N := 3) (fs := [.int 0, .int 0, .null]) rfl inU_X6 tyX6_ok cl_X9_32 it_X6 ini_X6 zf_X6 (by show k + 1 ≤ 53; omega) (by show n + 3 ≤ 5005; omega) 111 rfl dX9_init_108 (fun q => ?_)
  refine tc_dup rfl 112 rfl dX9_init_111 ?_
  refine tc_callI (b := 0) (As := []) (R1 := rm6) (mk := mk6 g) (fun sz => c_X6_init) mi_X6 ml_X9_66 rfl rfl (Nat.le_of_ble_eq_true rfl) ⟨Nat.le_of_ble_eq_true rfl, Nat.le_of_ble_eq_true rfl⟩ (by show k + 1 + 1 ≤ 53; omega) (by show n + 3 + 60 ≤ 5005; omega) 115 rfl dX9_init_112 (fun u hu => ?_)
  subst hu
  refine tc_w (w2 := (h0, .inr (8, fs)) :: (X ++ (tq, .inl (gT g, 6, .inr (.inr (.inr (.inr f))))) :: (B ++ mk6 g u))) (by simp) ?_
  refine tc_aast (ix := t) (f := f) (vs := [.int (-1), .int 0, .ref (u 1)]) (X.length + 1) (X.length + (B.length + 1) + 1) (by simp) ?_ (ix_nI ht (by decide)) 116 rfl dX9_init_115 ?_
  · rw [List.getElem?_cons_succ, List.getElem?_append_right (Nat.le_add_right _ _), Nat.add_sub_cancel_left, List.getElem?_cons_succ, List.getElem?_append_right (Nat.le_refl _), Nat.sub_self]
    rfl
  · refine tc_w (w2 := (h0, .inr (8, fs)) :: (X ++ (tq, .inl (gT g, 6, .inr (.inr (.inr (.inr (va_up f t (some (u 0)))))))) :: (B ++ mk6 g u))) ?_ ?_
    · rw [List.set_cons_succ, List.set_append_right _ _ (Nat.le_refl _), Nat.sub_self]
      rfl
    · refine tc_iinc_1 (nI (t + 1)) (iinc1 t) (by decide) rfl 119 rfl dX9_init_116 ?_
      exact tc_goto 97 rfl dX9_init_119 (kk u)
def mk9 (g : GC) (u : Nat → Nat) : va_W := wldF (gU g u) M0 L0 0 (shL.take 54)
set_option maxRecDepth 100000 in
set_option maxHeartbeats 4000000 in
theorem c_X9_init {g : GC} {h0 sz : Nat} : CZ g yX9_init cX9_init 2 rm9 (.ref h0 :: []) [(h0, .inr (8, [.null, .null, .int 0, .null, .null, .null, .null, .null, .null]))] (mk9 g) 0 h0 sz := by
  refine cz_of (own := RX9) (l := [some (.ref h0), none]) 1 rfl rfl rfl (Or.inr rfl) (Nat.le_of_ble_eq_true rfl) ?_
  refine tc_aload_0 1 rfl dX9_init_0 ?_
  refine tc_obj mo_X9 (Nat.le_of_ble_eq_true rfl) (Nat.le_of_ble_eq_true rfl) 4 rfl dX9_init_1 ?_
  refine tc_aload_0 5 rfl dX9_init_4 ?_
  refine tc_new (ci := 3) (N := 8) (fs := [.int 0, .int 0, .int 0, .null, .int 0, .null, .null, .null]) rfl inU_X4 tyX4_ok cl_X9_9 it_X4 ini_X4 zf_X4 (Nat.le_of_ble_eq_true rfl) (Nat.le_of_ble_eq_true rfl) 8 rfl dX9_init_5 (fun q1 => ?_)
  refine tc_dup rfl 9 rfl dX9_init_8 ?_
  refine tc_callI (b := 0) (As := []) (R1 := rm4) (mk := mk4 g) (fun sz => c_X4_init) mi_X4 ml_X9_11 rfl rfl (Nat.le_of_ble_eq_true rfl) ⟨(Nat.le_of_ble_eq_true rfl), (Nat.le_of_ble_eq_true rfl)⟩ (Nat.le_of_ble_eq_true rfl) (Nat.le_of_ble_eq_true rfl) 12 rfl dX9_init_9 (fun u1 hu1 => ?_)
  subst hu1
  refine tc_putr fl_X9_12 ff_8_0 rfl rfl (Nat.le_of_ble_eq_true rfl) (by decide) 15 rfl dX9_init_12 ?_
  refine tc_aload_0 16 rfl dX9_init_15 ?_
  refine tc_new (ci := 3) (N := 8) (fs := [.int 0, .int 0, .int 0, .null, .int 0, .null, .null, .null]) rfl inU_X4 tyX4_ok cl_X9_9 it_X4 ini_X4 zf_X4 (Nat.le_of_ble_eq_true rfl) (Nat.le_of_ble_eq_true rfl) 19 rfl dX9_init_16 (fun q2 => ?_)
  refine tc_dup rfl 20 rfl dX9_init_19 ?_
  refine tc_callI (b := 0) (As := []) (R1 := rm4) (mk := mk4 g) (fun sz => c_X4_init) mi_X4 ml_X9_11 rfl rfl (Nat.le_of_ble_eq_true rfl) ⟨(Nat.le_of_ble_eq_true rfl), (Nat.le_of_ble_eq_true rfl)⟩ (Nat.le_of_ble_eq_true rfl) (Nat.le_of_ble_eq_true rfl) 23 rfl dX9_init_20 (fun u2 hu2 => ?_)
  subst hu2
  refine tc_putr fl_X9_18 ff_8_1 rfl rfl (Nat.le_of_ble_eq_true rfl) (by decide) 26 rfl dX9_init_23 ?_
  refine tc_aload_0 27 rfl dX9_init_26 ?_
  refine tc_iconst (0) rfl 28 rfl dX9_init_27 ?_
  refine tc_puti fl_X9_21 fw_8_2 rfl rfl (Nat.le_of_ble_eq_true rfl) 31 rfl dX9_init_28 ?_
  refine tc_aload_0 32 rfl dX9_init_31 ?_
  refine tc_new (ci := 4) (N := 7) (fs := [.null, .int 0, .int 0, .null, .null, .null, .int 0]) rfl inU_X5 tyX5_ok cl_X9_25 it_X5 ini_X5 zf_X5 (Nat.le_of_ble_eq_true rfl) (Nat.le_of_ble_eq_true rfl) 35 rfl dX9_init_32 (fun q3 => ?_)
  refine tc_dup rfl 36 rfl dX9_init_35 ?_
  refine tc_callI (b := 0) (As := []) (R1 := rm5) (mk := mk5 g) (fun sz => c_X5_init) mi_X5 ml_X9_27 rfl rfl (Nat.le_of_ble_eq_true rfl) ⟨(Nat.le_of_ble_eq_true rfl), (Nat.le_of_ble_eq_true rfl)⟩ (Nat.le_of_ble_eq_true rfl) (Nat.le_of_ble_eq_true rfl) 39 rfl dX9_init_36 (fun u3 hu3 => ?_)
  subst hu3
  refine tc_putr fl_X9_28 ff_8_3 rfl rfl (Nat.le_of_ble_eq_true rfl) (by decide) 42 rfl dX9_init_39 ?_
  refine tc_aload_0 43 rfl dX9_init_42 ?_
  refine tc_bipush (6) (by decide) 45 rfl dX9_init_43 ?_
  refine tc_newT 6 cl_X9_32 (by decide) (by decide) (Nat.le_of_ble_eq_true rfl) (Nat.le_of_ble_eq_true rfl) (Nat.le_of_ble_eq_true rfl) 48 rfl dX9_init_45 (fun q4 => ?_)
  refine tc_putr fl_X9_34 ff_8_4 rfl rfl (Nat.le_of_ble_eq_true rfl) (by decide) 51 rfl dX9_init_48 ?_
  refine tc_aload_0 52 rfl dX9_init_51 ?_
  refine tc_new (ci := 2) (N := 8) (fs := [.null, .int 0, .null, .null, .null, .int 0, .int 0, .int 0]) rfl inU_X3 tyX3_ok cl_X9_38 it_X3 ini_X3 zf_X3 (Nat.le_of_ble_eq_true rfl) (Nat.le_of_ble_eq_true rfl) 55 rfl dX9_init_52 (fun q5 => ?_)
  refine tc_dup rfl 56 rfl dX9_init_55 ?_
  refine tc_callI (b := 0) (As := []) (R1 := rm3) (mk := mk3 g) (fun sz => c_X3_init) mi_X3 ml_X9_40 rfl rfl (Nat.le_of_ble_eq_true rfl) ⟨(Nat.le_of_ble_eq_true rfl), (Nat.le_of_ble_eq_true rfl)⟩ (Nat.le_of_ble_eq_true rfl) (Nat.le_of_ble_eq_true rfl) 59 rfl dX9_init_56 (fun u4 hu4 => ?_)
  subst hu4
  refine tc_putr fl_X9_41 ff_8_5 rfl rfl (Nat.le_of_ble_eq_true rfl) (by decide) 62 rfl dX9_init_59 ?_
  refine tc_aload_0 63 rfl dX9_init_62 ?_
  refine tc_new (ci := 0) (N := 4) (fs := [.null, .null, .null, .int 0]) rfl inU_X1 tyX1_ok cl_X9_45 it_X1 ini_X1 zf_X1 (Nat.le_of_ble_eq_true rfl) (Nat.le_of_ble_eq_true rfl) 66 rfl dX9_init_63 (fun q6 => ?_)
  refine tc_dup rfl 67 rfl dX9_init_66 ?_
  refine tc_callI (b := 0) (As := []) (R1 := rm1) (mk := mk1 g) (fun sz => c_X1_init) mi_X1 ml_X9_47 rfl rfl (Nat.le_of_ble_eq_true rfl) ⟨(Nat.le_of_ble_eq_true rfl), (Nat.le_of_ble_eq_true rfl)⟩ (Nat.le_of_ble_eq_true rfl) (Nat.le_of_ble_eq_true rfl) 70 rfl dX9_init_67 (fun u5 hu5 => ?_)
  subst hu5
  refine tc_putr fl_X9_48 ff_8_6 rfl rfl (Nat.le_of_ble_eq_true rfl) (by decide) 73 rfl dX9_init_70 ?_
  refine tc_aload_0 74 rfl dX9_init_73 ?_
  refine tc_new (ci := 6) (N := 2) (fs := [.int 0, .null]) rfl inU_X7 tyX7_ok cl_X9_52 it_X7 ini_X7 zf_X7 (Nat.le_of_ble_eq_true rfl) (Nat.le_of_ble_eq_true rfl) 77 rfl dX9_init_74 (fun q7 => ?_)
  refine tc_dup rfl 78 rfl dX9_init_77 ?_
  refine tc_callI (b := 0) (As := []) (R1 := rm7) (mk := mk7 g) (fun sz => c_X7_init) mi_X7 ml_X9_54 rfl rfl (Nat.le_of_ble_eq_true rfl) ⟨(Nat.le_of_ble_eq_true rfl), (Nat.le_of_ble_eq_true rfl)⟩ (Nat.le_of_ble_eq_true rfl) (Nat.le_of_ble_eq_true rfl) 81 rfl dX9_init_78 (fun u6 hu6 => ?_)
  subst hu6
  refine tc_putr fl_X9_55 ff_8_7 rfl rfl (Nat.le_of_ble_eq_true rfl) (by decide) 84 rfl dX9_init_81 ?_
  refine tc_aload_0 85 rfl dX9_init_84 ?_
  refine tc_new (ci := 7) (N := 1) (fs := [.null]) rfl inU_X8 tyX8_ok cl_X9_59 it_X8 ini_X8 zf_X8 (Nat.le_of_ble_eq_true rfl) (Nat.le_of_ble_eq_true rfl) 88 rfl dX9_init_85 (fun q8 => ?_)
  refine tc_dup rfl 89 rfl dX9_init_88 ?_
  refine tc_callI (b := 0) (As := []) (R1 := rm8) (mk := mk8 g) (fun sz => c_X8_init) mi_X8 ml_X9_61 rfl rfl (Nat.le_of_ble_eq_true rfl) ⟨(Nat.le_of_ble_eq_true rfl), (Nat.le_of_ble_eq_true rfl)⟩ (Nat.le_of_ble_eq_true rfl) (Nat.le_of_ble_eq_true rfl) 92 rfl dX9_init_89 (fun u7 hu7 => ?_)
  subst hu7
  refine tc_putr fl_X9_62 ff_8_8 rfl rfl (Nat.le_of_ble_eq_true rfl) (by decide) 95 rfl dX9_init_92 ?_
  refine tc_iconst (0) rfl 96 rfl dX9_init_95 ?_
  refine tc_istore_1 (by decide) rfl 97 rfl dX9_init_96 ?_
  refine tc_w (w2 := (h0, .inr (8, [.ref (u1 0), .ref (u2 0), .int 0, .ref (u3 0), .ref q4, .ref (u4 0), .ref (u5 0), .ref (u6 0), .ref (u7 0)])) :: ((mk4 g u1 ++ (mk4 g u2 ++ mk5 g u3)) ++ (q4, .inl (gT g, 6, .inr (.inr (.inr (.inr (fun _ => none)))))) :: (mk3 g u4 ++ (mk1 g u5 ++ (mk7 g u6 ++ mk8 g u7))))) rfl ?_
  refine tape_step (t := 0) (by decide) rfl (Nat.le_of_ble_eq_true rfl) (Nat.le_of_ble_eq_true rfl) (fun u8 => ?_)
  refine tape_step (t := 1) (by decide) rfl (Nat.le_of_ble_eq_true rfl) (Nat.le_of_ble_eq_true rfl) (fun u9 => ?_)
  refine tape_step (t := 2) (by decide) rfl (Nat.le_of_ble_eq_true rfl) (Nat.le_of_ble_eq_true rfl) (fun u10 => ?_)
  refine tape_step (t := 3) (by decide) rfl (Nat.le_of_ble_eq_true rfl) (Nat.le_of_ble_eq_true rfl) (fun u11 => ?_)
  refine tape_step (t := 4) (by decide) rfl (Nat.le_of_ble_eq_true rfl) (Nat.le_of_ble_eq_true rfl) (fun u12 => ?_)
  refine tape_step (t := 5) (by decide) rfl (Nat.le_of_ble_eq_true rfl) (Nat.le_of_ble_eq_true rfl) (fun u13 => ?_)
  refine tc_iload_1 98 rfl dX9_init_97 ?_
  refine tc_bipush (6) (by decide) 100 rfl dX9_init_98 ?_
  refine tc_ge_t 122 (by decide) rfl dX9_init_100 ?_
  have eT : (va_up (va_up (va_up (va_up (va_up (va_up (fun _ => none) 0 (some (u8 0))) 1 (some (u9 0))) 2 (some (u10 0))) 3 (some (u11 0))) 4 (some (u12 0))) 5 (some (u13 0))) = fun k => (([29, 31, 33, 35, 37, 39] : List Nat)[k]?).map (fun i => [h0, u1 0, u1 1, u1 2, u1 3, u1 4, u1 5, u1 6, u1 7, u1 8, u1 9, u1 10, u2 0, u2 1, u2 2, u2 3, u2 4, u2 5, u2 6, u2 7, u2 8, u2 9, u2 10, u3 0, u3 1, u3 2, u3 3, u3 4, q4, u8 0, u8 1, u9 0, u9 1, u10 0, u10 1, u11 0, u11 1, u12 0, u12 1, u13 0, u13 1, u4 0, u4 1, u4 2, u4 3, u4 4, u5 0, u5 1, u5 2, u5 3, u6 0, u6 1, u7 0, u7 1].getD i 0) := tp_fun (fun i => [h0, u1 0, u1 1, u1 2, u1 3, u1 4, u1 5, u1 6, u1 7, u1 8, u1 9, u1 10, u2 0, u2 1, u2 2, u2 3, u2 4, u2 5, u2 6, u2 7, u2 8, u2 9, u2 10, u3 0, u3 1, u3 2, u3 3, u3 4, q4, u8 0, u8 1, u9 0, u9 1, u10 0, u10 1, u11 0, u11 1, u12 0, u12 1, u13 0, u13 1, u4 0, u4 1, u4 2, u4 3, u4 4, u5 0, u5 1, u5 2, u5 3, u6 0, u6 1, u7 0, u7 1].getD i 0)
  rw [eT]
  refine tc_w (w2 := [(h0, .inr (8, [.ref (u1 0), .ref (u2 0), .int 0, .ref (u3 0), .ref q4, .ref (u4 0), .ref (u5 0), .ref (u6 0), .ref (u7 0)])), (u1 0, .inr (3, [.int 3, .int 0, .int 0, .ref (u1 1), .int 1, .ref (u1 2), .ref (u1 5), .ref (u1 8)])), (u1 1, .inl (gI g, 4, .inl (fun _ => 0))), (u1 2, .inr (1, [.ref (u1 3), .ref (u1 4), .int 0])), (u1 3, .inl (gI g, 6, .inl (fun _ => 0))), (u1 4, .inl (gI g, 6, .inl (fun _ => 0))), (u1 5, .inr (1, [.ref (u1 6), .ref (u1 7), .int 0])), (u1 6, .inl (gI g, 8, .inl (fun _ => 0))), (u1 7, .inl (gI g, 8, .inl (fun _ => 0))), (u1 8, .inr (1, [.ref (u1 9), .ref (u1 10), .int 0])), (u1 9, .inl (gI g, 8, .inl (fun _ => 0))), (u1 10, .inl (gI g, 8, .inl (fun _ => 0))), (u2 0, .inr (3, [.int 3, .int 0, .int 0, .ref (u2 1), .int 1, .ref (u2 2), .ref (u2 5), .ref (u2 8)])), (u2 1, .inl (gI g, 4, .inl (fun _ => 0))), (u2 2, .inr (1, [.ref (u2 3), .ref (u2 4), .int 0])), (u2 3, .inl (gI g, 6, .inl (fun _ => 0))), (u2 4, .inl (gI g, 6, .inl (fun _ => 0))), (u2 5, .inr (1, [.ref (u2 6), .ref (u2 7), .int 0])), (u2 6, .inl (gI g, 8, .inl (fun _ => 0))), (u2 7, .inl (gI g, 8, .inl (fun _ => 0))), (u2 8, .inr (1, [.ref (u2 9), .ref (u2 10), .int 0])), (u2 9, .inl (gI g, 8, .inl (fun _ => 0))), (u2 10, .inl (gI g, 8, .inl (fun _ => 0))), (u3 0, .inr (4, [.ref (u3 1), .int 0, .int 0, .ref (u3 2), .ref (u3 3), .ref (u3 4), .int 0])), (u3 1, .inl (gI g, 100, .inl (fun _ => 0))), (u3 2, .inl (gI g, 12, .inl (fun _ => 0))), (u3 3, .inl (gI g, 12, .inl (fun _ => 0))), (u3 4, .inl (gI g, 12, .inl (fun _ => 0))), (q4, .inl (gT g, 6, .inr (.inr (.inr (.inr (fun k => (([29, 31, 33, 35, 37, 39] : List Nat)[k]?).map (fun i => [h0, u1 0, u1 1, u1 2, u1 3, u1 4, u1 5, u1 6, u1 7, u1 8, u1 9, u1 10, u2 0, u2 1, u2 2, u2 3, u2 4, u2 5, u2 6, u2 7, u2 8, u2 9, u2 10, u3 0, u3 1, u3 2, u3 3, u3 4, q4, u8 0, u8 1, u9 0, u9 1, u10 0, u10 1, u11 0, u11 1, u12 0, u12 1, u13 0, u13 1, u4 0, u4 1, u4 2, u4 3, u4 4, u5 0, u5 1, u5 2, u5 3, u6 0, u6 1, u7 0, u7 1].getD i 0))))))), (u4 0, .inr (2, [.ref (u4 1), .int 0, .ref (u4 2), .ref (u4 3), .ref (u4 4), .int 1000, .int 0, .int 0])), (u4 1, .inl (gI g, 4, .inl (fun _ => 0))), (u4 2, .inl (gI g, 4, .inl (fun _ => 0))), (u4 3, .inl (gI g, 4, .inl (fun _ => 0))), (u4 4, .inl (gI g, 4, .inl (fun _ => 0))), (u5 0, .inr (0, [.ref (u5 1), .ref (u5 2), .ref (u5 3), .int 0])), (u5 1, .inl (gI g, 2048, .inl (fun _ => 0))), (u5 2, .inl (gI g, 768, .inl (fun _ => 0))), (u5 3, .inl (gI g, 768, .inl (fun _ => 0))), (u6 0, .inr (6, [.int 0, .ref (u6 1)])), (u6 1, .inl (gI g, 4, .inl (fun _ => 0))), (u7 0, .inr (7, [.ref (u7 1)])), (u7 1, .inl (gI g, 729, .inl (fun _ => 0))), (u8 0, .inr (5, [.int (-1), .int 0, .ref (u8 1)])), (u8 1, .inl (gJ g, 60, .inr (.inl (fun _ => 0)))), (u9 0, .inr (5, [.int (-1), .int 0, .ref (u9 1)])), (u9 1, .inl (gJ g, 60, .inr (.inl (fun _ => 0)))), (u10 0, .inr (5, [.int (-1), .int 0, .ref (u10 1)])), (u10 1, .inl (gJ g, 60, .inr (.inl (fun _ => 0)))), (u11 0, .inr (5, [.int (-1), .int 0, .ref (u11 1)])), (u11 1, .inl (gJ g, 60, .inr (.inl (fun _ => 0)))), (u12 0, .inr (5, [.int (-1), .int 0, .ref (u12 1)])), (u12 1, .inl (gJ g, 60, .inr (.inl (fun _ => 0)))), (u13 0, .inr (5, [.int (-1), .int 0, .ref (u13 1)])), (u13 1, .inl (gJ g, 60, .inr (.inl (fun _ => 0))))]) rfl ?_
  exact tc_vret (mk := mk9 g) (b := 0) (fun i => [h0, u1 0, u1 1, u1 2, u1 3, u1 4, u1 5, u1 6, u1 7, u1 8, u1 9, u1 10, u2 0, u2 1, u2 2, u2 3, u2 4, u2 5, u2 6, u2 7, u2 8, u2 9, u2 10, u3 0, u3 1, u3 2, u3 3, u3 4, q4, u8 0, u8 1, u9 0, u9 1, u10 0, u10 1, u11 0, u11 1, u12 0, u12 1, u13 0, u13 1, u4 0, u4 1, u4 2, u4 3, u4 4, u5 0, u5 1, u5 2, u5 3, u6 0, u6 1, u7 0, u7 1].getD i 0) [0, 1, 2, 3, 4, 5, 6, 7, 8, 9, 10, 11, 12, 13, 14, 15, 16, 17, 18, 19, 20, 21, 22, 23, 24, 25, 26, 27, 28, 42, 43, 44, 45, 46, 47, 48, 49, 50, 51, 52, 53, 29, 30, 31, 32, 33, 34, 35, 36, 37, 38, 39, 40, 41] rfl rfl rfl (by decide) dX9_init_122

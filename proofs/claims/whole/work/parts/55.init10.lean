/-! the model's constructor -/
def mkG (g : GC) (q : Nat) : va_W := [(q, .inl (gR g, 6, .inr (.inr (.inr (.inr (fun k => if k < 6 then some (q + 1 + k) else none)))))), (q + 1 + 0, .inl (gJ g, 60, .inr (.inl (fun _ => 0)))), (q + 1 + 1, .inl (gJ g, 60, .inr (.inl (fun _ => 0)))), (q + 1 + 2, .inl (gJ g, 60, .inr (.inl (fun _ => 0)))), (q + 1 + 3, .inl (gJ g, 60, .inr (.inl (fun _ => 0)))), (q + 1 + 4, .inl (gJ g, 60, .inr (.inl (fun _ => 0)))), (q + 1 + 5, .inl (gJ g, 60, .inr (.inl (fun _ => 0))))]
theorem mkG_at {g : GC} {q i : Nat} {x : Nat × va_E} (h : (mkG g q)[i]? = some x) : i < 7 ∧ x.1 = q + i := by
  have hi : i < 7 := (List.getElem?_eq_some_iff.mp h).1
  rcases (show i = 0 ∨ i = 1 ∨ i = 2 ∨ i = 3 ∨ i = 4 ∨ i = 5 ∨ i = 6 by omega) with rfl | rfl | rfl | rfl | rfl | rfl | rfl <;> (cases h; exact ⟨by decide, by first | rfl | (show q + 1 + _ = q + _; omega)⟩)
section Make3
variable {g : GC} {own : String} {cc : ByteArray} {nL : Nat} {R : Room} {mc ms : Nat} {Qc : QC} {A : Nat → Prop} {pc : Nat} {l : List (Option Value)} {st : List Value} {w : va_W} {k n : Nat}
theorem tc_multi {index : Nat} (hcl : Cond.classLink own index "[[J" ∈ tbU) (hc : k + 7 ≤ R.cells) (hs : n + 366 ≤ R.slots) (m2 : Nat) (hn : pc + 4 = m2) (hdg : decode cc pc = .ok (.multianewarray index 2, 4)) (kk : ∀ q, Tc g own cc nL R mc ms Qc A m2 l (.ref q :: st) (w ++ mkG g q) (k + 7) (n + 366)) : Tc g own cc nL R mc ms Qc A pc l (.int 60 :: .int 6 :: st) w k n := by
  subst hn
  intro p e s m args below meth c H locs ls C hl hP hD hS
  have hK := C.2.2.2.2.2.2.2.1.1
  refine W_multi C.1 C.2.1 C.2.2.2.2.1 (C.2.2.2.2.2.1 _ hcl) C.2.2.2.2.2.2.2.1.2.2 (C.2.2.2.2.2.1 _ ac_long) hdg hc hs (fun cA cB H1 fA fB z1 o1 e1 e2 => ?_)
  have gA : s.vm.findClass "[[J" = some (gR g) := (hK.2 3 _ rfl).2
  have gB : s.vm.findClass "[J" = some (gJ g) := (hK.2 1 _ rfl).2
  cases fA.symm.trans gA
  cases fB.symm.trans gB
  have hP1 : va_P (gD g) vwCl w H1 := hP.kept (fun k x hx => o1 x.1 ((hP k x hx).lt))
  have hPg : va_P (gD g) vwCl (mkG g H.size) H1 := fun i x hx => by
    obtain ⟨hi, -⟩ := mkG_at hx
    have ef : (fun j => va_rf (if j < 6 then some (H.size + 1 + j) else none)) = mf H.size 6 := by
      funext j
      rw [mf_at]
      by_cases c : j < 6
      · rw [if_pos c, if_pos c]; rfl
      · rw [if_neg c, if_neg c]; rfl
    rcases (show i = 0 ∨ i = 1 ∨ i = 2 ∨ i = 3 ∨ i = 4 ∨ i = 5 ∨ i = 6 by omega) with rfl | rfl | rfl | rfl | rfl | rfl | rfl
    · cases hx
      show H1[H.size]? = some (vp_cell _ _)
      rw [vp_cell_q, ef]; exact e1
    · cases hx; exact e2 0 (by decide)
    · cases hx; exact e2 1 (by decide)
    · cases hx; exact e2 2 (by decide)
    · cases hx; exact e2 3 (by decide)
    · cases hx; exact e2 4 (by decide)
    · cases hx; exact e2 5 (by decide)
  have hDg : va_D A (mkG g H.size) := ⟨fun i j x y hx hy hxy => by
    have a := (mkG_at hx).2
    have b := (mkG_at hy).2
    omega, fun i x hx => C.2.2.2.2.2.2.2.2.1 _ (by rw [(mkG_at hx).2]; exact Nat.le_trans hS.1 (Nat.le_add_right _ _))⟩
  exact kk H.size p e s m args below meth c H1 locs ls C hl (hP1.app hPg) (hD.app hDg (fun i j x y hx hy z => by
    have a := (hP i x hx).lt
    have b := (mkG_at hy).2
    omega)) ⟨Nat.le_trans hS.1 (by omega), fun x h1 h2 => (o1 x (Nat.lt_of_lt_of_le h1 hS.1)).trans (hS.2.1 x h1 h2), hS.2.2⟩
theorem tc_iastL {N q ix : Nat} {i x : Int32} {f : Nat → Int32} (hx : ixI i N ix) (m2 : Nat) (hn : pc + 1 = m2) (hdg : decode cc pc = .ok (.iastore, 1)) (kk : Tc g own cc nL R mc ms Qc A m2 l st (w ++ [(q, .inl (gI g, N, .inl (upd f ix x)))]) k n) : Tc g own cc nL R mc ms Qc A pc l (.int x :: .int i :: .ref q :: st) (w ++ [(q, .inl (gI g, N, .inl f))]) k n := by
  subst hn
  intro p e s m args below meth c H locs ls C hl hP hD hS
  refine va_iast C.1 C.2.1 C.2.2.2.2.2.2.2.1.1 hP hD hS w.length 0 (n := N) (f := f) (by simp) rfl hx.vp hdg (fun H1 locs1 hP1 hD1 hS1 => ?_)
  rw [hx.2.1] at hP1 hD1
  have e2 : (w ++ [(q, (Sum.inl (gI g, N, Sum.inl f) : va_E))]).set w.length (q, .inl (gI g, N, .inl (upd f ix x))) = w ++ [(q, .inl (gI g, N, .inl (upd f ix x)))] := by simp
  rw [e2] at hP1 hD1
  exact kk p e s m args below meth c H1 locs1 ls C hl hP1 hD1 hS1
theorem tc_iast1 {N a ix : Nat} {hd : Nat × va_E} {tl : va_W} {i x : Int32} {f : Nat → Int32} (hx : ixI i N ix) (m2 : Nat) (hn : pc + 1 = m2) (hdg : decode cc pc = .ok (.iastore, 1)) (kk : Tc g own cc nL R mc ms Qc A m2 l st (hd :: (a, .inl (gI g, N, .inl (upd f ix x))) :: tl) k n) : Tc g own cc nL R mc ms Qc A pc l (.int x :: .int i :: .ref a :: st) (hd :: (a, .inl (gI g, N, .inl f)) :: tl) k n := by
  subst hn
  intro p e s m args below meth c H locs ls C hl hP hD hS
  refine va_iast C.1 C.2.1 C.2.2.2.2.2.2.2.1.1 hP hD hS 1 0 (n := N) (f := f) rfl rfl hx.vp hdg (fun H1 locs1 hP1 hD1 hS1 => ?_)
  rw [hx.2.1] at hP1 hD1
  exact kk p e s m args below meth c H1 locs1 ls C hl hP1 hD1 hS1
theorem tc_iload_2 {r : List (Option Value)} {a0 a1 : Option Value} {x : Int32} (n2 : Nat) (hn : pc + 1 = n2) (hdg : decode cc pc = .ok (.iload_n 2, 1)) (kk : Tc g own cc nL R mc ms Qc A n2 (a0 :: a1 :: some (.int x) :: r) (.int x :: st) w k n) : Tc g own cc nL R mc ms Qc A pc (a0 :: a1 :: some (.int x) :: r) st w k n := by
  subst hn
  exact fun p e s m args below meth c H locs ls C hl hP hD hS => lv_iload_n C.1 C.2.1 hdg (i := 2) rfl (hl.2.2 2 _ rfl) (kk p e s m args below meth c H locs ls C hl hP hD hS)
theorem tc_iadd {x y : Int32} (v : Int32) (hv : x + y = v) (n2 : Nat) (hn : pc + 1 = n2) (hdg : decode cc pc = .ok (.iadd, 1)) (kk : Tc g own cc nL R mc ms Qc A n2 l (.int v :: st) w k n) : Tc g own cc nL R mc ms Qc A pc l (.int y :: .int x :: st) w k n := by
  subst hn; subst hv
  exact fun p e s m args below meth c H locs ls C hl hP hD hS => lv_iadd C.1 C.2.1 hdg (kk p e s m args below meth c H locs ls C hl hP hD hS)
theorem tc_istore_2 {a0 a1 b : Option Value} {r : List (Option Value)} {x : Int32} (hk : 2 < nL) (h2 : n2 a1 = true) (m2 : Nat) (hn : pc + 1 = m2) (hdg : decode cc pc = .ok (.istore_n 2, 1)) (kk : Tc g own cc nL R mc ms Qc A m2 (a0 :: a1 :: some (.int x) :: r) st w k n) : Tc g own cc nL R mc ms Qc A pc (a0 :: a1 :: b :: r) (.int x :: st) w k n := by
  subst hn
  intro p e s m args below meth c H locs ls C hl hP hD hS
  refine lv_istore_n C.1 C.2.1 hdg (i := 2) rfl hl.has hk rfl (fun ls' h' => kk p e s m args below meth c H locs ls' C (PL.put (keeps_set (l := a0 :: a1 :: b :: r) (i := 2) (v := .int x) (fun j w e q => by
    have : j = 1 := by omega
    subst this
    have q' : a1 = some w := by simpa using q
    subst q'
    exact n2_not h2)) h') hP hD hS)
theorem tc_iinc_2 {a0 a1 : Option Value} {r : List (Option Value)} {x : Int32} {z : Int} (v : Int32) (hv : x + Int32.ofInt z = v) (hk : 2 < nL) (h2 : n2 a1 = true) (m2 : Nat) (hn : pc + 3 = m2) (hdg : decode cc pc = .ok (.iinc 2 z, 3)) (kk : Tc g own cc nL R mc ms Qc A m2 (a0 :: a1 :: some (.int v) :: r) st w k n) : Tc g own cc nL R mc ms Qc A pc (a0 :: a1 :: some (.int x) :: r) st w k n := by
  subst hn
  intro p e s m args below meth c H locs ls C hl hP hD hS
  obtain ⟨k9, hkk⟩ := List.mem_iff_getElem?.mp ((alF_mem (a0 :: a1 :: some (.int x) :: r) 0 2 (.int x)).mpr ⟨Nat.zero_le _, rfl⟩)
  refine lv_iinc (v := v) C.1 C.2.1 hdg hl.has hkk hv hk rfl (fun ls' h' => kk p e s m args below meth c H locs ls' C (PL.put (keeps_set (l := a0 :: a1 :: some (.int x) :: r) (i := 2) (v := .int v) (fun j w e q => by
    have : j = 1 := by omega
    subst this
    have q' : a1 = some w := by simpa using q
    subst q'
    exact n2_not h2)) h') hP hD hS)
/-- a call that takes the whole world -/
theorem tc_callW {y : MethodName} {cb : ByteArray} {nB index q a ci : Nat} {fs : List Value} {tl w2 : va_W} {R1 : Room} {As : List Value} {stk : List Value} (hM : ∀ sz, CZ g y cb nB R1 (.ref a :: As) ((a, .inr (ci, fs)) :: tl) (fun _ => w2) 0 0 sz) (hm : MV y cb nB none q) (hln : Cond.methodLink own index y ∈ tbU) (hc0 : (vwCl[ci]?).map (fun z => z.1) = some y.cls) (hq : As.length = q) (hst : stk = As.reverse ++ .ref a :: st) (hroom : (st.map fun v => v.category).sum ≤ 8) (hR : R1.frames + 1 ≤ R.frames ∧ 8 + (nB + 11) + R1.locals ≤ R.locals) (hc : k + R1.cells ≤ R.cells) (hs : n + R1.slots ≤ R.slots) (m2 : Nat) (hn : pc + 3 = m2) (hdg : decode cc pc = .ok (.invokevirtual index, 3)) (kk : Tc g own cc nL R mc ms Qc A m2 l st w2 (k + R1.cells) (n + R1.slots)) : Tc g own cc nL R mc ms Qc A pc l stk ((a, .inr (ci, fs)) :: tl) k n := by
  subst hn; subst hst
  intro p e s m args below meth c H locs ls C hl hP hD hS
  obtain ⟨m1, m2, m3, m4, ⟨m5, m6, m7⟩, m8⟩ := hm
  have hts := C.2.2.2.2.2.1
  have hg : GoodIn tbU (wsV own index y.cls y (wsU y cb nB none)) := tb_goodIn (fun w hw => by
    rcases List.mem_append.mp hw with hw | hw
    · simp only [List.mem_cons, List.not_mem_nil, or_false] at hw
      rcases hw with rfl | rfl | rfl | rfl
      · exact hln
      · exact m1
      · exact m2
      · exact m3
    · rcases List.mem_cons.mp hw with rfl | hw
      · exact m4
      · exact hw)
  obtain ⟨z, hz1, hz2⟩ : ∃ z, vwCl[ci]? = some z ∧ z.1 = y.cls := by
    cases hzz : vwCl[ci]? with
    | none => rw [hzz] at hc0; cases hc0
    | some z => rw [hzz] at hc0; exact ⟨z, rfl, by simpa using hc0⟩
  have hrec := va_recv C.2.2.2.2.2.2.2.1.1 hP hz1 (q0 := 0) rfl
  rw [hz2] at hrec
  have hFc : ∀ x, va_A ((a, .inr (ci, fs)) :: tl) H.size x → A x := fun x h => by
    rcases h with ⟨i, e, h⟩ | h
    · exact hD.2 i _ h
    · exact C.2.2.2.2.2.2.2.2.1 x (Nat.le_trans hS.1 h)
  refine va_callv (va_runV (As := As) (rest := st) ⟨C.1, C.2.1, C.2.2.2.1, C.2.2.2.2.1, hts⟩ (hM H.size) (cwV q hts hg rfl rfl rfl ⟨rfl, m5, m6, m7⟩ hR) ⟨fun x U f mk' z => by obtain ⟨q0, q1, qP, qK, qD⟩ := z; exact ⟨q0, q1, qP, Kz.moved (u := U) (U := U.calling f mk' x) (Vm.Alike.refl U.vm) qK, qD⟩, hrec, fun U hU hW => ⟨rfl, by rw [hU], by rw [hU]; exact hP, Kz.moved hW.alike C.2.2.2.2.2.2.2.1, hD.weaken (fun _ _ _ _ => trivial)⟩⟩ rfl hq hl.1 rfl (lv_room hroom) hdg ⟨hc, hs⟩) hS (fun q _ h => hFc q h) hFc (fun u t H1 locs1 ht hvm hw hB hz1 hk1 hS1 => ?_)
  obtain ⟨hP1, hD1⟩ := hB
  rw [ht] at hP1
  exact kk p e s m args below meth c H1 locs1 ls C hl hP1 (hD1.weaken (fun _ x _ h => hFc x.1 h)) hS1
end Make3
def rmS : Room := { frames := 0, cells := 0, slots := 0, locals := 0 }
set_option maxRecDepth 100000 in
set_option maxHeartbeats 4000000 in
theorem c_X10_starts0 {g : GC} {h0 a1 sz : Nat} {fs : List Value} {tl : va_W} (hfs : fs[0]? = some (.ref a1)) : CZ g yX10_starts cX10_starts 3 rmS (.ref h0 :: [.int 3]) ((h0, .inr (9, fs)) :: (a1, .inl (gI g, 55, .inl (fun _ => 0))) :: tl) (fun _ => (h0, .inr (9, fs)) :: (a1, .inl (gI g, 55, .inl g0)) :: tl) 0 0 sz := by
  refine cz_of (own := RX10) (l := [some (.ref h0), some (.int 3), none]) 1 rfl rfl rfl (Or.inl rfl) (Nat.le_of_ble_eq_true rfl) ?_
  refine tc_aload_0 1 rfl dX10_starts_0 ?_
  refine tc_getr fl_X10_11 hfs 4 rfl dX10_starts_1 ?_
  refine tc_iconst (0) rfl 5 rfl dX10_starts_4 ?_
  refine tc_iload_1 6 rfl dX10_starts_5 ?_
  refine tc_iast1 (ix := 0) ⟨by decide, by decide, by decide⟩ 7 rfl dX10_starts_6 ?_
  refine tc_aload_0 8 rfl dX10_starts_7 ?_
  refine tc_getr fl_X10_11 hfs 11 rfl dX10_starts_8 ?_
  refine tc_iconst (1) rfl 12 rfl dX10_starts_11 ?_
  refine tc_iconst (0) rfl 13 rfl dX10_starts_12 ?_
  refine tc_iast1 (ix := 1) ⟨by decide, by decide, by decide⟩ 14 rfl dX10_starts_13 ?_
  refine tc_aload_0 15 rfl dX10_starts_14 ?_
  refine tc_getr fl_X10_11 hfs 18 rfl dX10_starts_15 ?_
  refine tc_iconst (2) rfl 19 rfl dX10_starts_18 ?_
  refine tc_iconst (0) rfl 20 rfl dX10_starts_19 ?_
  refine tc_iast1 (ix := 2) ⟨by decide, by decide, by decide⟩ 21 rfl dX10_starts_20 ?_
  refine tc_aload_0 22 rfl dX10_starts_21 ?_
  refine tc_getr fl_X10_11 hfs 25 rfl dX10_starts_22 ?_
  refine tc_iconst (3) rfl 26 rfl dX10_starts_25 ?_
  refine tc_iconst (1) rfl 27 rfl dX10_starts_26 ?_
  refine tc_iast1 (ix := 3) ⟨by decide, by decide, by decide⟩ 28 rfl dX10_starts_27 ?_
  refine tc_iconst (0) rfl 29 rfl dX10_starts_28 ?_
  refine tc_istore_2 (by decide) rfl 30 rfl dX10_starts_29 ?_
  refine tc_iload_2 31 rfl dX10_starts_30 ?_
  refine tc_iconst (4) rfl 32 rfl dX10_starts_31 ?_
  refine tc_ge_f 35 (by decide) rfl rfl dX10_starts_32 ?_
  refine tc_aload_0 36 rfl dX10_starts_35 ?_
  refine tc_getr fl_X10_11 hfs 39 rfl dX10_starts_36 ?_
  refine tc_iconst (4) rfl 40 rfl dX10_starts_39 ?_
  refine tc_iload_2 41 rfl dX10_starts_40 ?_
  refine tc_iadd (4) (by decide) 42 rfl dX10_starts_41 ?_
  refine tc_iconst (0) rfl 43 rfl dX10_starts_42 ?_
  refine tc_iast1 (ix := 4) ⟨by decide, by decide, by decide⟩ 44 rfl dX10_starts_43 ?_
  refine tc_iinc_2 (1) (by decide) (by decide) rfl 47 rfl dX10_starts_44 ?_
  refine tc_goto 30 rfl dX10_starts_47 ?_
  refine tc_iload_2 31 rfl dX10_starts_30 ?_
  refine tc_iconst (4) rfl 32 rfl dX10_starts_31 ?_
  refine tc_ge_f 35 (by decide) rfl rfl dX10_starts_32 ?_
  refine tc_aload_0 36 rfl dX10_starts_35 ?_
  refine tc_getr fl_X10_11 hfs 39 rfl dX10_starts_36 ?_
  refine tc_iconst (4) rfl 40 rfl dX10_starts_39 ?_
  refine tc_iload_2 41 rfl dX10_starts_40 ?_
  refine tc_iadd (5) (by decide) 42 rfl dX10_starts_41 ?_
  refine tc_iconst (0) rfl 43 rfl dX10_starts_42 ?_
  refine tc_iast1 (ix := 5) ⟨by decide, by decide, by decide⟩ 44 rfl dX10_starts_43 ?_
  refine tc_iinc_2 (2) (by decide) (by decide) rfl 47 rfl dX10_starts_44 ?_
  refine tc_goto 30 rfl dX10_starts_47 ?_
  refine tc_iload_2 31 rfl dX10_starts_30 ?_
  refine tc_iconst (4) rfl 32 rfl dX10_starts_31 ?_
  refine tc_ge_f 35 (by decide) rfl rfl dX10_starts_32 ?_
  refine tc_aload_0 36 rfl dX10_starts_35 ?_
  refine tc_getr fl_X10_11 hfs 39 rfl dX10_starts_36 ?_
  refine tc_iconst (4) rfl 40 rfl dX10_starts_39 ?_
  refine tc_iload_2 41 rfl dX10_starts_40 ?_
  refine tc_iadd (6) (by decide) 42 rfl dX10_starts_41 ?_
  refine tc_iconst (0) rfl 43 rfl dX10_starts_42 ?_
  refine tc_iast1 (ix := 6) ⟨by decide, by decide, by decide⟩ 44 rfl dX10_starts_43 ?_
  refine tc_iinc_2 (3) (by decide) (by decide) rfl 47 rfl dX10_starts_44 ?_
  refine tc_goto 30 rfl dX10_starts_47 ?_
  refine tc_iload_2 31 rfl dX10_starts_30 ?_
  refine tc_iconst (4) rfl 32 rfl dX10_starts_31 ?_
  refine tc_ge_f 35 (by decide) rfl rfl dX10_starts_32 ?_
  refine tc_aload_0 36 rfl dX10_starts_35 ?_
  refine tc_getr fl_X10_11 hfs 39 rfl dX10_starts_36 ?_
  refine tc_iconst (4) rfl 40 rfl dX10_starts_39 ?_
  refine tc_iload_2 41 rfl dX10_starts_40 ?_
  refine tc_iadd (7) (by decide) 42 rfl dX10_starts_41 ?_
  refine tc_iconst (0) rfl 43 rfl dX10_starts_42 ?_
  refine tc_iast1 (ix := 7) ⟨by decide, by decide, by decide⟩ 44 rfl dX10_starts_43 ?_
  refine tc_iinc_2 (4) (by decide) (by decide) rfl 47 rfl dX10_starts_44 ?_
  refine tc_goto 30 rfl dX10_starts_47 ?_
  refine tc_iload_2 31 rfl dX10_starts_30 ?_
  refine tc_iconst (4) rfl 32 rfl dX10_starts_31 ?_
  refine tc_ge_t 50 (by decide) rfl dX10_starts_32 ?_
  refine fun p e s m args below meth c H locs ls C hl hP hD hS => W.vret C.1 C.2.1 C.2.2.1 (fun t ht hW => ⟨⟨fun _ => 0, rfl, rfl, by rw [ht]; exact hP, hD⟩, hS.F ht⟩) hS.2.2 dX10_starts_50 C.2.2.2.2.2.2.1
def mk10 (g : GC) (u : Nat → Nat) : va_W := wldF (gU g u) M0 L0 54 (shL.drop 54)
def rm10 : Room := { frames := 2, cells := 18, slots := 131732, locals := 60 }
theorem gr_fun (q : Nat) (u : Nat → Nat) (h : ∀ j, j < 6 → u (67 + j) = q + 1 + j) : (fun k => if k < 6 then some (q + 1 + k) else none) = fun k => (([67, 68, 69, 70, 71, 72] : List Nat)[k]?).map u := by
  funext k
  match k with
  | 0 => exact (congrArg some (h 0 (by decide))).symm
  | 1 => exact (congrArg some (h 1 (by decide))).symm
  | 2 => exact (congrArg some (h 2 (by decide))).symm
  | 3 => exact (congrArg some (h 3 (by decide))).symm
  | 4 => exact (congrArg some (h 4 (by decide))).symm
  | 5 => exact (congrArg some (h 5 (by decide))).symm
  | k + 6 => simp
set_option maxRecDepth 100000 in
set_option maxHeartbeats 4000000 in
theorem c_X10_init {g : GC} {h0 sz : Nat} : CZ g yX10_init cX10_init 1 rm10 (.ref h0 :: []) [(h0, .inr (9, [.null, .null, .int 0, .null, .null, .int 0, .null, .null, .null, .int 0, .int 0, .null, .int 0, .int 0, .null, .null, .null, .null]))] (mk10 g) 54 h0 sz := by
  refine cz_of (own := RX10) (l := [some (.ref h0)]) 0 rfl rfl rfl (Or.inr rfl) (Nat.le_of_ble_eq_true rfl) ?_
  refine tc_aload_0 1 rfl dX10_init_0 ?_
  refine tc_obj mo_X10 (Nat.le_of_ble_eq_true rfl) (Nat.le_of_ble_eq_true rfl) 4 rfl dX10_init_1 ?_
  refine tc_aload_0 5 rfl dX10_init_4 ?_
  refine tc_bipush (55) (by decide) 7 rfl dX10_init_5 ?_
  refine tc_newi 55 (by decide) (by decide) (Nat.le_of_ble_eq_true rfl) (Nat.le_of_ble_eq_true rfl) (Nat.le_of_ble_eq_true rfl) 9 rfl dX10_init_7 (fun q1 => ?_)
  refine tc_putr fl_X10_11 ff_9_0 rfl rfl (Nat.le_of_ble_eq_true rfl) (by decide) 12 rfl dX10_init_9 ?_
  refine tc_aload_0 13 rfl dX10_init_12 ?_
  refine tc_bipush (55) (by decide) 15 rfl dX10_init_13 ?_
  refine tc_newi 55 (by decide) (by decide) (Nat.le_of_ble_eq_true rfl) (Nat.le_of_ble_eq_true rfl) (Nat.le_of_ble_eq_true rfl) 17 rfl dX10_init_15 (fun q2 => ?_)
  refine tc_putr fl_X10_15 ff_9_1 rfl rfl (Nat.le_of_ble_eq_true rfl) (by decide) 20 rfl dX10_init_17 ?_
  refine tc_aload_0 21 rfl dX10_init_20 ?_
  refine tc_iconst (4) rfl 22 rfl dX10_init_21 ?_
  refine tc_newi 4 (by decide) (by decide) (Nat.le_of_ble_eq_true rfl) (Nat.le_of_ble_eq_true rfl) (Nat.le_of_ble_eq_true rfl) 24 rfl dX10_init_22 (fun q3 => ?_)
  refine tc_putr fl_X10_18 ff_9_3 rfl rfl (Nat.le_of_ble_eq_true rfl) (by decide) 27 rfl dX10_init_24 ?_
  refine tc_aload_0 28 rfl dX10_init_27 ?_
  refine tc_iconst (4) rfl 29 rfl dX10_init_28 ?_
  refine tc_newi 4 (by decide) (by decide) (Nat.le_of_ble_eq_true rfl) (Nat.le_of_ble_eq_true rfl) (Nat.le_of_ble_eq_true rfl) 31 rfl dX10_init_29 (fun q4 => ?_)
  refine tc_putr fl_X10_21 ff_9_4 rfl rfl (Nat.le_of_ble_eq_true rfl) (by decide) 34 rfl dX10_init_31 ?_
  refine tc_aload_0 35 rfl dX10_init_34 ?_
  refine tc_ldc kc_X10_24 37 rfl dX10_init_35 ?_
  refine tc_newi 65536 (by decide) (by decide) (Nat.le_of_ble_eq_true rfl) (Nat.le_of_ble_eq_true rfl) (Nat.le_of_ble_eq_true rfl) 39 rfl dX10_init_37 (fun q5 => ?_)
  refine tc_putr fl_X10_25 ff_9_6 rfl rfl (Nat.le_of_ble_eq_true rfl) (by decide) 42 rfl dX10_init_39 ?_
  refine tc_aload_0 43 rfl dX10_init_42 ?_
  refine tc_ldc kc_X10_24 45 rfl dX10_init_43 ?_
  refine tc_newi 65536 (by decide) (by decide) (Nat.le_of_ble_eq_true rfl) (Nat.le_of_ble_eq_true rfl) (Nat.le_of_ble_eq_true rfl) 47 rfl dX10_init_45 (fun q6 => ?_)
  refine tc_putr fl_X10_28 ff_9_7 rfl rfl (Nat.le_of_ble_eq_true rfl) (by decide) 50 rfl dX10_init_47 ?_
  refine tc_aload_0 51 rfl dX10_init_50 ?_
  refine tc_bipush (100) (by decide) 53 rfl dX10_init_51 ?_
  refine tc_newi 100 (by decide) (by decide) (Nat.le_of_ble_eq_true rfl) (Nat.le_of_ble_eq_true rfl) (Nat.le_of_ble_eq_true rfl) 55 rfl dX10_init_53 (fun q7 => ?_)
  refine tc_putr fl_X10_31 ff_9_8 rfl rfl (Nat.le_of_ble_eq_true rfl) (by decide) 58 rfl dX10_init_55 ?_
  refine tc_aload_0 59 rfl dX10_init_58 ?_
  refine tc_iconst (4) rfl 60 rfl dX10_init_59 ?_
  refine tc_newi 4 (by decide) (by decide) (Nat.le_of_ble_eq_true rfl) (Nat.le_of_ble_eq_true rfl) (Nat.le_of_ble_eq_true rfl) 62 rfl dX10_init_60 (fun q8 => ?_)
  refine tc_putr fl_X10_34 ff_9_11 rfl rfl (Nat.le_of_ble_eq_true rfl) (by decide) 65 rfl dX10_init_62 ?_
  refine tc_aload_0 66 rfl dX10_init_65 ?_
  refine tc_bipush (6) (by decide) 68 rfl dX10_init_66 ?_
  refine tc_newi 6 (by decide) (by decide) (Nat.le_of_ble_eq_true rfl) (Nat.le_of_ble_eq_true rfl) (Nat.le_of_ble_eq_true rfl) 70 rfl dX10_init_68 (fun q9 => ?_)
  refine tc_dup rfl 71 rfl dX10_init_70 ?_
  refine tc_iconst (0) rfl 72 rfl dX10_init_71 ?_
  refine tc_iconst (-1) rfl 73 rfl dX10_init_72 ?_
  refine tc_iastL (ix := 0) ⟨by decide, by decide, by decide⟩ 74 rfl dX10_init_73 ?_
  refine tc_dup rfl 75 rfl dX10_init_74 ?_
  refine tc_iconst (1) rfl 76 rfl dX10_init_75 ?_
  refine tc_iconst (-1) rfl 77 rfl dX10_init_76 ?_
  refine tc_iastL (ix := 1) ⟨by decide, by decide, by decide⟩ 78 rfl dX10_init_77 ?_
  refine tc_dup rfl 79 rfl dX10_init_78 ?_
  refine tc_iconst (2) rfl 80 rfl dX10_init_79 ?_
  refine tc_iconst (-1) rfl 81 rfl dX10_init_80 ?_
  refine tc_iastL (ix := 2) ⟨by decide, by decide, by decide⟩ 82 rfl dX10_init_81 ?_
  refine tc_dup rfl 83 rfl dX10_init_82 ?_
  refine tc_iconst (3) rfl 84 rfl dX10_init_83 ?_
  refine tc_iconst (-1) rfl 85 rfl dX10_init_84 ?_
  refine tc_iastL (ix := 3) ⟨by decide, by decide, by decide⟩ 86 rfl dX10_init_85 ?_
  refine tc_dup rfl 87 rfl dX10_init_86 ?_
  refine tc_iconst (4) rfl 88 rfl dX10_init_87 ?_
  refine tc_iconst (-1) rfl 89 rfl dX10_init_88 ?_
  refine tc_iastL (ix := 4) ⟨by decide, by decide, by decide⟩ 90 rfl dX10_init_89 ?_
  refine tc_dup rfl 91 rfl dX10_init_90 ?_
  refine tc_iconst (5) rfl 92 rfl dX10_init_91 ?_
  refine tc_iconst (-1) rfl 93 rfl dX10_init_92 ?_
  refine tc_iastL (ix := 5) ⟨by decide, by decide, by decide⟩ 94 rfl dX10_init_93 ?_
  refine tc_putr fl_X10_37 ff_9_14 rfl rfl (Nat.le_of_ble_eq_true rfl) (by decide) 97 rfl dX10_init_94 ?_
  refine tc_aload_0 98 rfl dX10_init_97 ?_
  refine tc_bipush (6) (by decide) 100 rfl dX10_init_98 ?_
  refine tc_newi 6 (by decide) (by decide) (Nat.le_of_ble_eq_true rfl) (Nat.le_of_ble_eq_true rfl) (Nat.le_of_ble_eq_true rfl) 102 rfl dX10_init_100 (fun q10 => ?_)
  refine tc_putr fl_X10_40 ff_9_15 rfl rfl (Nat.le_of_ble_eq_true rfl) (by decide) 105 rfl dX10_init_102 ?_
  refine tc_aload_0 106 rfl dX10_init_105 ?_
  refine tc_bipush (6) (by decide) 108 rfl dX10_init_106 ?_
  refine tc_bipush (60) (by decide) 110 rfl dX10_init_108 ?_
  refine tc_multi cl_X10_43 (Nat.le_of_ble_eq_true rfl) (Nat.le_of_ble_eq_true rfl) 114 rfl dX10_init_110 (fun q11 => ?_)
  refine tc_putr fl_X10_45 ff_9_16 rfl rfl (Nat.le_of_ble_eq_true rfl) (by decide) 117 rfl dX10_init_114 ?_
  refine tc_aload_0 118 rfl dX10_init_117 ?_
  refine tc_bipush (60) (by decide) 120 rfl dX10_init_118 ?_
  refine tc_newl 60 (by decide) (by decide) (Nat.le_of_ble_eq_true rfl) (Nat.le_of_ble_eq_true rfl) (Nat.le_of_ble_eq_true rfl) 122 rfl dX10_init_120 (fun q12 => ?_)
  refine tc_putr fl_X10_48 ff_9_17 rfl rfl (Nat.le_of_ble_eq_true rfl) (by decide) 125 rfl dX10_init_122 ?_
  refine tc_aload_0 126 rfl dX10_init_125 ?_
  refine tc_iconst (3) rfl 127 rfl dX10_init_126 ?_
  refine tc_w (w2 := (h0, .inr (9, [.ref q1, .ref q2, .int 0, .ref q3, .ref q4, .int 0, .ref q5, .ref q6, .ref q7, .int 0, .int 0, .ref q8, .int 0, .int 0, .ref q9, .ref q10, .ref q11, .ref q12])) :: (q1, .inl (gI g, 55, .inl (fun _ => 0))) :: [(q2, .inl (gI g, 55, .inl (fun _ => 0))), (q3, .inl (gI g, 4, .inl (fun _ => 0))), (q4, .inl (gI g, 4, .inl (fun _ => 0))), (q5, .inl (gI g, 65536, .inl (fun _ => 0))), (q6, .inl (gI g, 65536, .inl (fun _ => 0))), (q7, .inl (gI g, 100, .inl (fun _ => 0))), (q8, .inl (gI g, 4, .inl (fun _ => 0))), (q9, .inl (gI g, 6, .inl (r0))), (q10, .inl (gI g, 6, .inl (fun _ => 0))), (q11, .inl (gR g, 6, .inr (.inr (.inr (.inr (fun k => if k < 6 then some (q11 + 1 + k) else none)))))), ((q11 + 1 + 0), .inl (gJ g, 60, .inr (.inl (fun _ => 0)))), ((q11 + 1 + 1), .inl (gJ g, 60, .inr (.inl (fun _ => 0)))), ((q11 + 1 + 2), .inl (gJ g, 60, .inr (.inl (fun _ => 0)))), ((q11 + 1 + 3), .inl (gJ g, 60, .inr (.inl (fun _ => 0)))), ((q11 + 1 + 4), .inl (gJ g, 60, .inr (.inl (fun _ => 0)))), ((q11 + 1 + 5), .inl (gJ g, 60, .inr (.inl (fun _ => 0)))), (q12, .inl (gJ g, 60, .inr (.inl (fun _ => 0))))]) rfl ?_
  refine tc_callW (As := [.int 3]) (R1 := rmS) (fun sz => c_X10_starts0 rfl) mv_X10_starts ml_X10_52 rfl rfl rfl (Nat.le_of_ble_eq_true rfl) ⟨(Nat.le_of_ble_eq_true rfl), (Nat.le_of_ble_eq_true rfl)⟩ (Nat.le_of_ble_eq_true rfl) (Nat.le_of_ble_eq_true rfl) 130 rfl dX10_init_127 ?_
  rw [gr_fun q11 (fun i => [h0, q1, q2, q3, q4, q5, q6, q7, q8, q9, q10, q11, q12, (q11 + 1 + 0), (q11 + 1 + 1), (q11 + 1 + 2), (q11 + 1 + 3), (q11 + 1 + 4), (q11 + 1 + 5)].getD (i - 54) 0) (fun j hj => by rcases (show j = 0 ∨ j = 1 ∨ j = 2 ∨ j = 3 ∨ j = 4 ∨ j = 5 by omega) with rfl | rfl | rfl | rfl | rfl | rfl <;> rfl)]
  exact tc_vret (mk := mk10 g) (b := 54) (fun i => [h0, q1, q2, q3, q4, q5, q6, q7, q8, q9, q10, q11, q12, (q11 + 1 + 0), (q11 + 1 + 1), (q11 + 1 + 2), (q11 + 1 + 3), (q11 + 1 + 4), (q11 + 1 + 5)].getD (i - 54) 0) [0, 1, 2, 3, 4, 5, 6, 7, 8, 9, 10, 11, 18, 12, 13, 14, 15, 16, 17] rfl rfl rfl (by decide) dX10_init_130

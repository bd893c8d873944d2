def R_law : String := "WeighedLotsLaw"
def lw_P (b : Addr) (xs : List Int32) (args : Array Value) (s : State) : Prop := args = #[.ref b] ∧ s.IntsAt b xs ∧ xs.length ≤ 3072 ∧ (Jvm.Cond.and given_1 narrow_1).before args s = true
def lw_Q (_ : Array Value) (s : State) (o : Outcome) (t : State) : Prop := o = .returned (some (.int 1)) ∧ Framed s o t [] 600000 7302249
def lw_Z (below : List Frame) (a : Array Value) (s : State) : State → Prop := fun t => ∃ o, t.status = .running ∧ Ended t below o ∧ lw_Q a s o t
/-- the law's own end, with 1 on the stack, nothing written that was there before, its room as the claim has it -/
theorem lw_ret {p : Program} {l : Launch} {e : Env} {s : State} {m : MethodId} {below : List Frame} {meth : Method} {c : Code} {b : Nat} (hx : p.tables.exec = Jvm.exec) (hb : c.code = code) (hr : meth.sig.returnType = ret) (hlocks : meth.locks = false) {pc : Nat} {H : Heap} {ls : Array Slot} (hdg : decode code pc = .ok (.ireturn, 1)) : W p l e room_1 s m #[Value.ref b] below meth c H [] 600000 7302249 (lw_Z below #[Value.ref b] s) (F0 m pc ls [.int 1]) := by
  intro T hT X
  obtain ⟨fs, hret, hrun, hended, hW, hframe⟩ := X.leave (v := some (.int 1)) (hlocks := hlocks) (fun h => by rw [hr] at h; cases h)
  have hmeth' : T.vm.method? m = some meth := X.method'
  refine ⟨T.setFrames fs, ?_, .returned (some (.int 1)), hrun, hended, rfl, ⟨_, rfl⟩, hW, hframe⟩
  jvm_step X.here [X.here.top, hx, hb, hdg, hmeth', hr, ret, narrow_b1]
  (try refine ⟨rfl, ?_⟩); (try refine ⟨rfl, ?_⟩)
  first | (intro acts; rw [hret _ acts rfl rfl rfl]) | rw [hret _ _ rfl rfl rfl]
  exact Steps.refl _
/-- what holds at the law's entry: the machine, the code, the tables' words (any of lw_tbl by 'hts w (by decide +kernel)'), the script of L ints xs at the cell b, what the Statement gives of the start (any of its parts by flat_of_before) -/
def lw_At (p : Program) (s : State) (m : MethodId) (meth : Method) (c : Code) (b L : Nat) (xs : Nat → Int32) : Prop :=
  p.tables.exec = Jvm.exec ∧ c.code = code ∧ meth.sig.returnType = ret ∧ c.maxLocals = 4 ∧ s.vm.findClass R_law = some m.cls ∧ (∀ w ∈ lw_tbl, w.before #[Value.ref b] s = true) ∧ va_X b L xs s s.heap ∧ b < s.heap.size ∧ meth.locks = false ∧ (Jvm.Cond.and given_1 narrow_1).before #[Value.ref b] s = true
/-! the law's own walk -/
def A0 (s : State) : Nat → Prop := fun q => s.heap.size ≤ q
def StL (g : GC) (s : State) : Prop := va_K (gD g) vwCl (gTys g) s ∧ va_Z "WeighedLots$Lots" "WITH" "[I" (.ref (gW g)) (A0 s) s s.heap ∧ va_T .int (gW g) 4 (fun j => .int (wv j)) (A0 s) s s.heap ∧ adOK g ∧ ∀ i, i < 73 → s.heap.size ≤ ga g i
theorem StL.aad {g : GC} {s : State} (h : StL g s) : ∀ q, Aad g q → A0 s q := fun q ⟨i, hi, e⟩ => by rw [← e]; exact h.2.2.2.2 i hi
theorem StL.move {g : GC} {s U : State} {H : Heap} {locs : List Loc} (h : StL g s) (hS : va_S (A0 s) s.heap H locs) (hU : U.heap = H) (hW : s.WarmedH U.vm) : StG g U := by
  refine ⟨va_K.moved hW.alike h.1, ?_, ?_, h.2.2.2.1⟩
  · exact ((va_Z.moved (U := U) hW.alike h.2.1).kept (H1 := U.heap) (fun a ha hn => by rw [hU]; exact hS.2.1 a ha hn)).narrow h.aad
  · exact ((va_T.moved (U := U) hW.alike h.2.2.1).kept (H1 := U.heap) (fun a ha hn => by rw [hU]; exact hS.2.1 a ha hn)).narrow h.aad
def LX (p : Program) (s : State) (m : MethodId) (meth : Method) (c : Code) (g : GC) (b Ln : Nat) (xs : Nat → Int32) : Prop := lw_At p s m meth c b Ln xs ∧ StL g s
def Tl (p : Program) (e : Env) (s : State) (m : MethodId) (below : List Frame) (meth : Method) (c : Code) (g : GC) (b pc : Nat) (l : List (Option Value)) (st : List Value) (M : MI) (L : ML) : Prop :=
  ∀ (H : Heap) (locs : List Loc) (ls : Array Slot), PL ls 4 l → va_P (gD g) vwCl (wld g M L) H → va_S (A0 s) s.heap H locs → W p (gL g) e room_1 s m #[Value.ref b] below meth c H locs 600000 7302249 (lw_Z below #[Value.ref b] s) (F0 m pc ls st)
section LawW
variable {p : Program} {e : Env} {s : State} {m : MethodId} {below : List Frame} {meth : Method} {c : Code} {g : GC} {b Ln : Nat} {xs : Nat → Int32} {pc : Nat} {l : List (Option Value)} {st : List Value} {M : MI} {L : ML}
theorem LX.tb (C : LX p s m meth c g b Ln xs) : ∀ w ∈ tbU, w.before #[Value.ref b] s = true := fun w hw => C.1.2.2.2.2.2.1 w (List.mem_filter.mp hw).1
theorem LX.nA (C : LX p s m meth c g b Ln xs) : ¬ A0 s b := Nat.not_le.mpr C.1.2.2.2.2.2.2.2.1
theorem tl_aload_0 {x : Nat} (C : LX p s m meth c g b Ln xs) (h : l[0]? = some (some (.ref x))) (n : Nat) (hn : pc + 1 = n) (hdg : decode cL_law pc = .ok (.aload_n 0, 1)) (k : Tl p e s m below meth c g b n l (.ref x :: st) M L) : Tl p e s m below meth c g b pc l st M L := by
  subst hn
  exact fun H locs ls hl hP hS => lv_aload_n C.1.1 C.1.2.1 hdg (i := 0) rfl (hl.2.2 0 _ h) (k H locs ls hl hP hS)
theorem tl_aload_1 {x : Nat} (C : LX p s m meth c g b Ln xs) (h : l[1]? = some (some (.ref x))) (n : Nat) (hn : pc + 1 = n) (hdg : decode cL_law pc = .ok (.aload_n 1, 1)) (k : Tl p e s m below meth c g b n l (.ref x :: st) M L) : Tl p e s m below meth c g b pc l st M L := by
  subst hn
  exact fun H locs ls hl hP hS => lv_aload_n C.1.1 C.1.2.1 hdg (i := 1) rfl (hl.2.2 1 _ h) (k H locs ls hl hP hS)
theorem tl_aload_2 {x : Nat} (C : LX p s m meth c g b Ln xs) (h : l[2]? = some (some (.ref x))) (n : Nat) (hn : pc + 1 = n) (hdg : decode cL_law pc = .ok (.aload_n 2, 1)) (k : Tl p e s m below meth c g b n l (.ref x :: st) M L) : Tl p e s m below meth c g b pc l st M L := by
  subst hn
  exact fun H locs ls hl hP hS => lv_aload_n C.1.1 C.1.2.1 hdg (i := 2) rfl (hl.2.2 2 _ h) (k H locs ls hl hP hS)
theorem tl_iload_3 {x : Int32} (C : LX p s m meth c g b Ln xs) (h : l[3]? = some (some (.int x))) (n : Nat) (hn : pc + 1 = n) (hdg : decode cL_law pc = .ok (.iload_n 3, 1)) (k : Tl p e s m below meth c g b n l (.int x :: st) M L) : Tl p e s m below meth c g b pc l st M L := by
  subst hn
  exact fun H locs ls hl hP hS => lv_iload_n C.1.1 C.1.2.1 hdg (i := 3) rfl (hl.2.2 3 _ h) (k H locs ls hl hP hS)
theorem tl_iconst {z : Int} (v : Int32) (C : LX p s m meth c g b Ln xs) (hv : Int32.ofInt z = v) (n : Nat) (hn : pc + 1 = n) (hdg : decode cL_law pc = .ok (.iconst z, 1)) (k : Tl p e s m below meth c g b n l (.int v :: st) M L) : Tl p e s m below meth c g b pc l st M L := by
  subst hn
  exact fun H locs ls hl hP hS => lv_iconst C.1.1 C.1.2.1 hdg hv (k H locs ls hl hP hS)
theorem tl_bipush {z : Int} (v : Int32) (C : LX p s m meth c g b Ln xs) (hv : (Int8.ofInt z).toInt32 = v) (n : Nat) (hn : pc + 2 = n) (hdg : decode cL_law pc = .ok (.bipush z, 2)) (k : Tl p e s m below meth c g b n l (.int v :: st) M L) : Tl p e s m below meth c g b pc l st M L := by
  subst hn
  exact fun H locs ls hl hP hS => lv_bipush C.1.1 C.1.2.1 hdg hv (k H locs ls hl hP hS)
theorem tl_ldc2 {index : Nat} {v : Int64} (C : LX p s m meth c g b Ln xs) (hw : Cond.constantLong RL index v ∈ tbU) (n : Nat) (hn : pc + 3 = n) (hdg : decode cL_law pc = .ok (.ldc2_w index, 3)) (k : Tl p e s m below meth c g b n l (.long v :: st) M L) : Tl p e s m below meth c g b pc l st M L := by
  subst hn
  exact fun H locs ls hl hP hS => lv_ldc2 (own := RL) C.1.1 C.1.2.1 C.1.2.2.2.2.1 (C.tb _ hw) hdg (k H locs ls hl hP hS)
theorem tl_iadd {x y : Int32} (C : LX p s m meth c g b Ln xs) (n : Nat) (hn : pc + 1 = n) (hdg : decode cL_law pc = .ok (.iadd, 1)) (k : Tl p e s m below meth c g b n l (.int (x + y) :: st) M L) : Tl p e s m below meth c g b pc l (.int y :: .int x :: st) M L := by
  subst hn
  exact fun H locs ls hl hP hS => lv_iadd C.1.1 C.1.2.1 hdg (k H locs ls hl hP hS)
theorem tl_isub {x y : Int32} (C : LX p s m meth c g b Ln xs) (n : Nat) (hn : pc + 1 = n) (hdg : decode cL_law pc = .ok (.isub, 1)) (k : Tl p e s m below meth c g b n l (.int (x - y) :: st) M L) : Tl p e s m below meth c g b pc l (.int y :: .int x :: st) M L := by
  subst hn
  exact fun H locs ls hl hP hS => lv_isub C.1.1 C.1.2.1 hdg (k H locs ls hl hP hS)
theorem tl_iand {x y : Int32} (C : LX p s m meth c g b Ln xs) (n : Nat) (hn : pc + 1 = n) (hdg : decode cL_law pc = .ok (.iand, 1)) (k : Tl p e s m below meth c g b n l (.int (x &&& y) :: st) M L) : Tl p e s m below meth c g b pc l (.int y :: .int x :: st) M L := by
  subst hn
  exact fun H locs ls hl hP hS => lv_iand C.1.1 C.1.2.1 hdg (k H locs ls hl hP hS)
theorem tl_land {x y : Int64} (C : LX p s m meth c g b Ln xs) (n : Nat) (hn : pc + 1 = n) (hdg : decode cL_law pc = .ok (.land, 1)) (k : Tl p e s m below meth c g b n l (.long (x &&& y) :: st) M L) : Tl p e s m below meth c g b pc l (.long y :: .long x :: st) M L := by
  subst hn
  exact fun H locs ls hl hP hS => lv_land C.1.1 C.1.2.1 hdg (k H locs ls hl hP hS)
theorem tl_lor {x y : Int64} (C : LX p s m meth c g b Ln xs) (n : Nat) (hn : pc + 1 = n) (hdg : decode cL_law pc = .ok (.lor, 1)) (k : Tl p e s m below meth c g b n l (.long (x ||| y) :: st) M L) : Tl p e s m below meth c g b pc l (.long y :: .long x :: st) M L := by
  subst hn
  exact fun H locs ls hl hP hS => lv_lor C.1.1 C.1.2.1 hdg (k H locs ls hl hP hS)
theorem tl_lcmp {x y : Int64} (C : LX p s m meth c g b Ln xs) (n : Nat) (hn : pc + 1 = n) (hdg : decode cL_law pc = .ok (.lcmp, 1)) (k : Tl p e s m below meth c g b n l (.int (lg_cmp x y) :: st) M L) : Tl p e s m below meth c g b pc l (.long y :: .long x :: st) M L := by
  subst hn
  exact fun H locs ls hl hP hS => W.lcmp C.1.1 C.1.2.1 hdg (k H locs ls hl hP hS)
theorem tl_lshl {x : Int64} {y : Int32} (C : LX p s m meth c g b Ln xs) (n : Nat) (hn : pc + 1 = n) (hdg : decode cL_law pc = .ok (.lshl, 1)) (k : Tl p e s m below meth c g b n l (.long (x <<< (y.toInt64 &&& 63)) :: st) M L) : Tl p e s m below meth c g b pc l (.int y :: .long x :: st) M L := by
  subst hn
  exact fun H locs ls hl hP hS => lv_lshl C.1.1 C.1.2.1 hdg rfl (k H locs ls hl hP hS)
theorem tl_i2l {x : Int32} (C : LX p s m meth c g b Ln xs) (n : Nat) (hn : pc + 1 = n) (hdg : decode cL_law pc = .ok (.i2l, 1)) (k : Tl p e s m below meth c g b n l (.long (x.toInt64) :: st) M L) : Tl p e s m below meth c g b pc l (.int x :: st) M L := by
  subst hn
  exact fun H locs ls hl hP hS => lv_i2l C.1.1 C.1.2.1 hdg rfl (k H locs ls hl hP hS)
theorem tl_goto {off : Int} (C : LX p s m meth c g b Ln xs) (tgt : Nat) (ht : (pc : Int) + off = (tgt : Int)) (hdg : decode cL_law pc = .ok (.goto off, 3)) (k : Tl p e s m below meth c g b tgt l st M L) : Tl p e s m below meth c g b pc l st M L := fun H locs ls hl hP hS => lv_goto C.1.1 C.1.2.1 hdg ht (k H locs ls hl hP hS)
theorem tl_swOut {dflt lo hi : Int} {offs : Array Int} {len : Nat} {x : Int32} (C : LX p s m meth c g b Ln xs) (tgt : Nat) (h : x.toInt < lo ∨ hi < x.toInt) (ht : (pc : Int) + dflt = (tgt : Int)) (hdg : decode cL_law pc = .ok (.tableswitch dflt lo hi offs, len)) (k : Tl p e s m below meth c g b tgt l st M L) : Tl p e s m below meth c g b pc l (.int x :: st) M L := fun H locs ls hl hP hS => lv_tableOut C.1.1 C.1.2.1 hdg h ht (k H locs ls hl hP hS)
theorem tl_swIn {dflt lo hi : Int} {offs : Array Int} {len : Nat} {x : Int32} {off : Int} (C : LX p s m meth c g b Ln xs) (tgt : Nat) (h1 : ¬ x.toInt < lo) (h2 : ¬ hi < x.toInt) (ho : offs[(x.toInt - lo).toNat]? = some off) (ht : (pc : Int) + off = (tgt : Int)) (hdg : decode cL_law pc = .ok (.tableswitch dflt lo hi offs, len)) (k : Tl p e s m below meth c g b tgt l st M L) : Tl p e s m below meth c g b pc l (.int x :: st) M L := fun H locs ls hl hP hS => lv_tableIn C.1.1 C.1.2.1 hdg h1 h2 ho ht (k H locs ls hl hP hS)
theorem tl_icmp_gt {x y : Int32} {off : Int} (C : LX p s m meth c g b Ln xs) (tgt n : Nat) (ht : (pc : Int) + off = (tgt : Int)) (hn : pc + 3 = n) (hdg : decode cL_law pc = .ok (.if_icmp .gt off, 3)) (kt : y < x → Tl p e s m below meth c g b tgt l st M L) (kf : ¬ y < x → Tl p e s m below meth c g b n l st M L) : Tl p e s m below meth c g b pc l (.int y :: .int x :: st) M L := by
  subst hn
  exact fun H locs ls hl hP hS => lv_icmp_gt C.1.1 C.1.2.1 hdg ht (fun q => kt q H locs ls hl hP hS) (fun q => kf q H locs ls hl hP hS)
theorem tl_icmp_eq {x y : Int32} {off : Int} (C : LX p s m meth c g b Ln xs) (tgt : Nat) (h : x = y) (ht : (pc : Int) + off = (tgt : Int)) (hdg : decode cL_law pc = .ok (.if_icmp .eq off, 3)) (kt : Tl p e s m below meth c g b tgt l st M L) : Tl p e s m below meth c g b pc l (.int y :: .int x :: st) M L :=
  fun H locs ls hl hP hS => lv_icmp_eq C.1.1 C.1.2.1 hdg ht (fun _ => kt H locs ls hl hP hS) (fun q => absurd h q)
theorem tl_if_eq {x : Int32} {off : Int} (C : LX p s m meth c g b Ln xs) (tgt : Nat) (h : x = 0) (ht : (pc : Int) + off = (tgt : Int)) (hdg : decode cL_law pc = .ok (.ifCond .eq off, 3)) (kt : Tl p e s m below meth c g b tgt l st M L) : Tl p e s m below meth c g b pc l (.int x :: st) M L :=
  fun H locs ls hl hP hS => lv_if_eq C.1.1 C.1.2.1 hdg ht (fun _ => kt H locs ls hl hP hS) (fun q => absurd h q)
theorem tl_iinc_3 {a0 a1 a2 : Option Value} {x : Int32} {z : Int} (C : LX p s m meth c g b Ln xs) (v : Int32) (hv : x + Int32.ofInt z = v) (h2 : n2 a2 = true) (n : Nat) (hn : pc + 3 = n) (hdg : decode cL_law pc = .ok (.iinc 3 z, 3)) (k : Tl p e s m below meth c g b n [a0, a1, a2, some (.int v)] st M L) : Tl p e s m below meth c g b pc [a0, a1, a2, some (.int x)] st M L := by
  subst hn
  intro H locs ls hl hP hS
  obtain ⟨kk, hkk⟩ := List.mem_iff_getElem?.mp ((alF_mem ([a0, a1, a2, some (.int x)]) 0 3 (.int x)).mpr ⟨Nat.zero_le _, rfl⟩)
  refine lv_iinc (v := v) C.1.1 C.1.2.1 hdg hl.has hkk hv (by decide) rfl (fun ls' h' => k H locs ls' (PL.put (keeps_set (l := [a0, a1, a2, some (.int x)]) (i := 3) (v := .int v) (fun j w e q => by
    have : j = 2 := by omega
    subst this
    have q' : a2 = some w := by simpa using q
    subst q'
    exact n2_not h2)) h') hP hS)
/-- script[i] -/
theorem tl_sld {ix : Nat} {x : Int32} (C : LX p s m meth c g b Ln xs) (hx : ixI x Ln ix) (n : Nat) (hn : pc + 1 = n) (hdg : decode cL_law pc = .ok (.iaload, 1)) (k : Tl p e s m below meth c g b n l (.int (xs ix) :: st) M L) : Tl p e s m below meth c g b pc l (.int x :: .ref b :: st) M L := by
  subst hn
  intro H locs ls hl hP hS
  have kk := k H locs ls hl hP hS
  rw [← hx.2.1] at kk
  exact va_sld C.1.1 C.1.2.1 C.1.2.2.2.2.2.2.1 C.1.2.2.2.2.2.2.2.1 C.nA hS hx.vp hdg kk
theorem tl_slen (C : LX p s m meth c g b Ln xs) (n : Nat) (hn : pc + 1 = n) (hdg : decode cL_law pc = .ok (.arraylength, 1)) (k : Tl p e s m below meth c g b n l (.int (nI Ln) :: st) M L) : Tl p e s m below meth c g b pc l (.ref b :: st) M L := by
  subst hn
  exact fun H locs ls hl hP hS => va_slen C.1.1 C.1.2.1 C.1.2.2.2.2.2.2.1 C.1.2.2.2.2.2.2.2.1 C.nA hS hdg (k H locs ls hl hP hS)
abbrev lcs (g : GC) (b k : Nat) : List (Option Value) := [some (.ref b), some (rf g 0), some (rf g 54), some (.int (nI (6 * k)))]
/-- an argument: script[i + j] -/
theorem tl_arg {k j : Nat} (C : LX p s m meth c g b Ln xs) (hL : Ln ≤ 3072) (hk : 6 * k + 6 ≤ Ln) (hj : j < 6) {z : Int} (hz : Int32.ofInt z = nI j) (n : Nat) (hn : pc + 5 = n) (h0 : decode cL_law pc = .ok (.aload_n 0, 1)) (h1 : decode cL_law (pc + 1) = .ok (.iload_n 3, 1)) (h2 : decode cL_law (pc + 1 + 1) = .ok (.iconst z, 1)) (h3 : decode cL_law (pc + 1 + 1 + 1) = .ok (.iadd, 1)) (h4 : decode cL_law (pc + 1 + 1 + 1 + 1) = .ok (.iaload, 1)) (kk : Tl p e s m below meth c g b n (lcs g b k) (.int (xs (6 * k + j)) :: st) M L) : Tl p e s m below meth c g b pc (lcs g b k) st M L := by
  refine tl_aload_0 C rfl _ rfl h0 ?_
  refine tl_iload_3 C rfl _ rfl h1 ?_
  refine tl_iconst _ C hz _ rfl h2 ?_
  refine tl_iadd C _ rfl h3 ?_
  have e : nI (6 * k) + nI j = nI (6 * k + j) := nI_add _ _
  rw [e]
  exact tl_sld C (ix_nI (by omega) (by omega)) _ hn h4 kk
theorem tl_ret (C : LX p s m meth c g b Ln xs) (h0 : decode cL_law pc = .ok (.iconst 1, 1)) (h1 : decode cL_law (pc + 1) = .ok (.ireturn, 1)) : Tl p e s m below meth c g b pc l [] M L := fun H locs ls hl hP hS => by
  refine lv_iconst (v := 1) C.1.1 C.1.2.1 h0 (by decide) ?_
  refine va_forget (fun q hq => hS.2.2 q hq) ?_
  exact lw_ret C.1.1 C.1.2.1 C.1.2.2.1 C.1.2.2.2.2.2.2.2.2.1 h1
theorem tl_callI {y : MethodName} {cb : ByteArray} {nB index q ci : Nat} {av : List Value} {Qr : Int32 → MI → ML → Prop} {i : Nat} {As : List Value} {fl : List (Option Nat)} {stk : List Value} (C : LX p s m meth c g b Ln xs) (hM : CrI g 30 y cb nB .int av M L Qr) (hm : MV y cb nB (some .int) q) (hln : Cond.methodLink RL index y ∈ tbU) (hav : av = rf g i :: As) (hs : shp i = some (.inl (ci, fl))) (hc : (vwCl[ci]?).map (fun z => z.1) = some y.cls) (hq : As.length = q) (hst : stk = As.reverse ++ rf g i :: st) (hroom : (st.map fun v => v.category).sum ≤ 8) (n : Nat) (hn : pc + 3 = n) (hdg : decode cL_law pc = .ok (.invokevirtual index, 3)) (k : ∀ r M1 L1, Qr r M1 L1 → Tl p e s m below meth c g b n l (.int r :: st) M1 L1) : Tl p e s m below meth c g b pc l stk M L := by
  subst hn; subst hst; subst hav
  intro H locs ls hl hP hS
  obtain ⟨m1, m2, m3, m4, ⟨m5, m6, m7⟩, m8⟩ := hm
  have hg : GoodIn tbU (wsV RL index y.cls y (wsU y cb nB (some .int))) := tb_goodIn (fun w hw => by
    rcases List.mem_append.mp hw with hw | hw
    · simp only [List.mem_cons, List.not_mem_nil, or_false] at hw
      rcases hw with rfl | rfl | rfl | rfl
      · exact hln
      · exact m1
      · exact m2
      · exact m3
    · rcases List.mem_cons.mp hw with rfl | hw
      · exact m4
      · exact hw)
  obtain ⟨z, hz1, hz2⟩ : ∃ z, vwCl[ci]? = some z ∧ z.1 = y.cls := by
    cases hzz : vwCl[ci]? with
    | none => rw [hzz] at hc; cases hc
    | some z => rw [hzz] at hc; exact ⟨z, rfl, by simpa using hc⟩
  have hrec := va_recv C.2.1 hP hz1 (wld_get hs)
  rw [hz2] at hrec
  refine va_calli (va_runV (As := As) (rest := st) ⟨C.1.1, C.1.2.1, C.1.2.2.2.1, C.1.2.2.2.2.1, C.tb⟩ hM (cwV q C.tb hg rfl rfl rfl ⟨rfl, m5, m6, m7⟩ ⟨Nat.le_of_ble_eq_true rfl, by show 8 + (nB + 11) + 40 * 30 ≤ 84000; omega⟩) ⟨blindG g _ M L, hrec, fun U hU hW => ⟨rfl, by rw [hU]; exact hP, C.2.move hS hU hW⟩⟩ rfl hq hl.1 rfl (lv_room hroom) hdg ⟨Nat.le_of_ble_eq_true rfl, Nat.le_of_ble_eq_true rfl⟩) hS (fun q _ h => C.2.aad q h) (fun q h => C.2.aad q h) (fun r u t H1 locs1 ht hvm hw hB hz hk hS1 => ?_)
  subst ht
  exact k r u.1 u.2 hw _ locs1 ls hl hB hS1
theorem tl_callL {y : MethodName} {cb : ByteArray} {nB index q ci : Nat} {av : List Value} {Qr : Int64 → MI → ML → Prop} {i : Nat} {As : List Value} {fl : List (Option Nat)} {stk : List Value} (C : LX p s m meth c g b Ln xs) (hM : CrL g 30 y cb nB av M L Qr) (hm : MV y cb nB (some .long) q) (hln : Cond.methodLink RL index y ∈ tbU) (hav : av = rf g i :: As) (hs : shp i = some (.inl (ci, fl))) (hc : (vwCl[ci]?).map (fun z => z.1) = some y.cls) (hq : As.length = q) (hst : stk = As.reverse ++ rf g i :: st) (hroom : (st.map fun v => v.category).sum ≤ 8) (n : Nat) (hn : pc + 3 = n) (hdg : decode cL_law pc = .ok (.invokevirtual index, 3)) (k : ∀ r M1 L1, Qr r M1 L1 → Tl p e s m below meth c g b n l (.long r :: st) M1 L1) : Tl p e s m below meth c g b pc l stk M L := by
  subst hn; subst hst; subst hav
  intro H locs ls hl hP hS
  obtain ⟨m1, m2, m3, m4, ⟨m5, m6, m7⟩, m8⟩ := hm
  have hg : GoodIn tbU (wsV RL index y.cls y (wsU y cb nB (some .long))) := tb_goodIn (fun w hw => by
    rcases List.mem_append.mp hw with hw | hw
    · simp only [List.mem_cons, List.not_mem_nil, or_false] at hw
      rcases hw with rfl | rfl | rfl | rfl
      · exact hln
      · exact m1
      · exact m2
      · exact m3
    · rcases List.mem_cons.mp hw with rfl | hw
      · exact m4
      · exact hw)
  obtain ⟨z, hz1, hz2⟩ : ∃ z, vwCl[ci]? = some z ∧ z.1 = y.cls := by
    cases hzz : vwCl[ci]? with
    | none => rw [hzz] at hc; cases hc
    | some z => rw [hzz] at hc; exact ⟨z, rfl, by simpa using hc⟩
  have hrec := va_recv C.2.1 hP hz1 (wld_get hs)
  rw [hz2] at hrec
  refine va_calll (va_runV (As := As) (rest := st) ⟨C.1.1, C.1.2.1, C.1.2.2.2.1, C.1.2.2.2.2.1, C.tb⟩ hM (cwV q C.tb hg rfl rfl rfl ⟨rfl, m5, m6, m7⟩ ⟨Nat.le_of_ble_eq_true rfl, by show 8 + (nB + 11) + 40 * 30 ≤ 84000; omega⟩) ⟨blindG g _ M L, hrec, fun U hU hW => ⟨rfl, by rw [hU]; exact hP, C.2.move hS hU hW⟩⟩ rfl hq hl.1 rfl (lv_room hroom) hdg ⟨Nat.le_of_ble_eq_true rfl, Nat.le_of_ble_eq_true rfl⟩) hS (fun q _ h => C.2.aad q h) (fun q h => C.2.aad q h) (fun r u t H1 locs1 ht hvm hw hB hz hk hS1 => ?_)
  subst ht
  exact k r u.1 u.2 hw _ locs1 ls hl hB hS1
end LawW

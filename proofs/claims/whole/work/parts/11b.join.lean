section Join
variable {g : GC} {d : Nat} {own : String} {cc : ByteArray} {nL : Nat} {ret : Option FieldType} {Qc : QC} {pc : Nat} {l : List (Option Value)} {st : List Value} {M : MI} {L : ML}
/-- two ways that come together at J with one number more on the stack -/
theorem tm_join1 {x : Int32} (J : Nat) (V : Int32) (k1 : Tm g d own cc nL ret Qc J l (.int V :: st) M L) (k2 : Tm g d own cc nL ret Qc J l (.int V :: st) M L → Tm g d own cc nL ret Qc pc l (.int x :: st) M L) : Tm g d own cc nL ret Qc pc l (.int x :: st) M L := k2 k1
theorem tm_join2 {x y : Int32} (J : Nat) (V : Int32) (k1 : Tm g d own cc nL ret Qc J l (.int V :: st) M L) (k2 : Tm g d own cc nL ret Qc J l (.int V :: st) M L → Tm g d own cc nL ret Qc pc l (.int y :: .int x :: st) M L) : Tm g d own cc nL ret Qc pc l (.int y :: .int x :: st) M L := k2 k1
/-- the same with nothing more on the stack -/
theorem tm_joinV1 {x : Int32} (J : Nat) (M1 : MI) (L1 : ML) (k1 : Tm g d own cc nL ret Qc J l st M1 L1) (k2 : Tm g d own cc nL ret Qc J l st M1 L1 → Tm g d own cc nL ret Qc pc l (.int x :: st) M L) : Tm g d own cc nL ret Qc pc l (.int x :: st) M L := k2 k1
theorem tm_joinV2 {x y : Int32} (J : Nat) (M1 : MI) (L1 : ML) (k1 : Tm g d own cc nL ret Qc J l st M1 L1) (k2 : Tm g d own cc nL ret Qc J l st M1 L1 → Tm g d own cc nL ret Qc pc l (.int y :: .int x :: st) M L) : Tm g d own cc nL ret Qc pc l (.int y :: .int x :: st) M L := k2 k1
theorem tm_top {x V : Int32} (h : V = x) (k : Tm g d own cc nL ret Qc pc l (.int V :: st) M L) : Tm g d own cc nL ret Qc pc l (.int x :: st) M L := h ▸ k
theorem tm_mem {M' : MI} {L' : ML} (h : M = M') (h2 : L = L') (k : Tm g d own cc nL ret Qc pc l st M L) : Tm g d own cc nL ret Qc pc l st M' L' := h ▸ h2 ▸ k
theorem tm_wkr {l' : List (Option Value)} (k : Tm g d own cc nL ret Qc pc l st M L) (hk : wkL l l') : Tm g d own cc nL ret Qc pc l' st M L := tm_wk hk k
end Join

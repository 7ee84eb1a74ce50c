/-! bits in ints that are numbers -/
theorem jv_shl1 : ∀ k, k < 31 → nI 1 <<< (nI k &&& 31) = nI (2 ^ k) := by decide +kernel
theorem jv_sl31 : ∀ n, n < 31 → ((nI n &&& 31).toBitVec.smod 32).toNat = n := by decide +kernel
theorem jv_shrK {a k : Nat} (ha : a < 2 ^ 31) (hk : k < 31) : nI a >>> (nI k &&& 31) = nI (a / 2 ^ k) := pk_shrN ha _ k (jv_sl31 k hk)
theorem jv_bitN (w k : Nat) : w / 2 ^ k % 2 = if w.testBit k then 1 else 0 := by
  rw [Nat.testBit_eq_decide_div_mod_eq]
  have h : w / 2 ^ k % 2 < 2 := Nat.mod_lt _ (by decide)
  by_cases h1 : w / 2 ^ k % 2 = 1
  · simp [h1]
  · simp [h1]; omega
theorem jv_and1 (a : Nat) : nI a &&& nI 1 = nI (a % 2) := by rw [fa_and, Nat.and_one_is_mod]
section JVBit
variable {E : jv_E} {cc : ByteArray} {own : String} {nL : Nat} {h : jv_H} {ce sl : Nat} {Q : State → Prop} {pc q : Nat} {lo : List (Nat × Value)} {st : List Value}
theorem jv_ishlN (G : jv_C E cc own nL) {k : Nat} (hd : decode cc pc = .ok (.ishl, 1)) (hk : k < 31) (hp : pc + 1 = q) (kk : jv_V E nL h ce sl Q q lo (.int (nI (2 ^ k)) :: st)) : jv_V E nL h ce sl Q pc lo (.int (nI k) :: .int (nI 1) :: st) := jv_ishl G hd hp (by rw [jv_shl1 k hk]; exact kk)
theorem jv_ishrN (G : jv_C E cc own nL) {a k : Nat} (hd : decode cc pc = .ok (.ishr, 1)) (ha : a < 2 ^ 31) (hk : k < 31) (hp : pc + 1 = q) (kk : jv_V E nL h ce sl Q q lo (.int (nI (a / 2 ^ k)) :: st)) : jv_V E nL h ce sl Q pc lo (.int (nI k) :: .int (nI a) :: st) := jv_ishr G hd hp (by rw [jv_shrK ha hk]; exact kk)
theorem jv_iorN (G : jv_C E cc own nL) {a b : Nat} (hd : decode cc pc = .ok (.ior, 1)) (hp : pc + 1 = q) (kk : jv_V E nL h ce sl Q q lo (.int (nI (a ||| b)) :: st)) : jv_V E nL h ce sl Q pc lo (.int (nI b) :: .int (nI a) :: st) := jv_ior G hd hp (by rw [fa_or]; exact kk)
theorem jv_iandN (G : jv_C E cc own nL) {a b : Nat} (hd : decode cc pc = .ok (.iand, 1)) (hp : pc + 1 = q) (kk : jv_V E nL h ce sl Q q lo (.int (nI (a &&& b)) :: st)) : jv_V E nL h ce sl Q pc lo (.int (nI b) :: .int (nI a) :: st) := jv_iand G hd hp (by rw [fa_and]; exact kk)
end JVBit

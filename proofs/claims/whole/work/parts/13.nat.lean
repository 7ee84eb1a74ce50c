section JVNat
variable {E : jv_E} {cc : ByteArray} {own : String} {nL : Nat} {h : jv_H} {ce sl : Nat} {Q : State → Prop} {pc q : Nat} {lo : List (Nat × Value)} {st : List Value}
theorem jv_iaddN (G : jv_C E cc own nL) {a b : Nat} (hd : decode cc pc = .ok (.iadd, 1)) (hp : pc + 1 = q) (k : jv_V E nL h ce sl Q q lo (.int (nI (a + b)) :: st)) : jv_V E nL h ce sl Q pc lo (.int (nI b) :: .int (nI a) :: st) := jv_iadd G hd hp (by rw [nI_add]; exact k)
theorem jv_imulN (G : jv_C E cc own nL) {a b : Nat} (hd : decode cc pc = .ok (.imul, 1)) (hp : pc + 1 = q) (k : jv_V E nL h ce sl Q q lo (.int (nI (a * b)) :: st)) : jv_V E nL h ce sl Q pc lo (.int (nI b) :: .int (nI a) :: st) := jv_imul G hd hp (by rw [pk_mul]; exact k)
theorem jv_isubN (G : jv_C E cc own nL) {a b : Nat} (hd : decode cc pc = .ok (.isub, 1)) (hab : b ≤ a) (hp : pc + 1 = q) (k : jv_V E nL h ce sl Q q lo (.int (nI (a - b)) :: st)) : jv_V E nL h ce sl Q pc lo (.int (nI b) :: .int (nI a) :: st) := jv_isub G hd hp (by rw [pk_sub hab]; exact k)
theorem jv_idivN (G : jv_C E cc own nL) {a b : Nat} (hd : decode cc pc = .ok (.idiv, 1)) (ha : a < 2 ^ 31) (h0 : 0 < b) (hb : b < 2 ^ 31) (hp : pc + 1 = q) (k : jv_V E nL h ce sl Q q lo (.int (nI (a / b)) :: st)) : jv_V E nL h ce sl Q pc lo (.int (nI b) :: .int (nI a) :: st) := jv_idiv G hd (nI_ne0 h0 hb) hp (by rw [pk_div ha h0 hb]; exact k)
theorem jv_iremN (G : jv_C E cc own nL) {a b : Nat} (hd : decode cc pc = .ok (.irem, 1)) (ha : a < 2 ^ 31) (h0 : 0 < b) (hb : b < 2 ^ 31) (hp : pc + 1 = q) (k : jv_V E nL h ce sl Q q lo (.int (nI (a % b)) :: st)) : jv_V E nL h ce sl Q pc lo (.int (nI b) :: .int (nI a) :: st) := jv_irem G hd (nI_ne0 h0 hb) hp (by rw [pk_rem ha h0 hb]; exact k)
theorem jv_icmp_eqN (G : jv_C E cc own nL) {a b : Nat} {off : Int} {tgt : Nat} (hd : decode cc pc = .ok (.if_icmp .eq off, 3)) (ht : (pc : Int) + off = (tgt : Int)) (hp : pc + 3 = q) (ha : a < 2 ^ 31) (hb : b < 2 ^ 31) (kt : a = b → jv_V E nL h ce sl Q tgt lo st) (kf : ¬ a = b → jv_V E nL h ce sl Q q lo st) : jv_V E nL h ce sl Q pc lo (.int (nI b) :: .int (nI a) :: st) := jv_icmp_eq G hd ht hp (fun z => kt ((nI_eq ha hb).mp z)) (fun z => kf (fun w => z ((nI_eq ha hb).mpr w)))
theorem jv_icmp_neN (G : jv_C E cc own nL) {a b : Nat} {off : Int} {tgt : Nat} (hd : decode cc pc = .ok (.if_icmp .ne off, 3)) (ht : (pc : Int) + off = (tgt : Int)) (hp : pc + 3 = q) (ha : a < 2 ^ 31) (hb : b < 2 ^ 31) (kt : ¬ a = b → jv_V E nL h ce sl Q tgt lo st) (kf : a = b → jv_V E nL h ce sl Q q lo st) : jv_V E nL h ce sl Q pc lo (.int (nI b) :: .int (nI a) :: st) := jv_icmp_ne G hd ht hp (fun z => kt (fun w => z ((nI_eq ha hb).mpr w))) (fun z => kf ((nI_eq ha hb).mp z))
theorem jv_icmp_ltN (G : jv_C E cc own nL) {a b : Nat} {off : Int} {tgt : Nat} (hd : decode cc pc = .ok (.if_icmp .lt off, 3)) (ht : (pc : Int) + off = (tgt : Int)) (hp : pc + 3 = q) (ha : a < 2 ^ 31) (hb : b < 2 ^ 31) (kt : a < b → jv_V E nL h ce sl Q tgt lo st) (kf : b ≤ a → jv_V E nL h ce sl Q q lo st) : jv_V E nL h ce sl Q pc lo (.int (nI b) :: .int (nI a) :: st) := jv_icmp_lt G hd ht hp (fun z => kt ((nI_ltI ha hb).mp z)) (fun z => kf (Nat.not_lt.mp (fun w => z ((nI_ltI ha hb).mpr w))))
theorem jv_icmp_geN (G : jv_C E cc own nL) {a b : Nat} {off : Int} {tgt : Nat} (hd : decode cc pc = .ok (.if_icmp .ge off, 3)) (ht : (pc : Int) + off = (tgt : Int)) (hp : pc + 3 = q) (ha : a < 2 ^ 31) (hb : b < 2 ^ 31) (kt : b ≤ a → jv_V E nL h ce sl Q tgt lo st) (kf : a < b → jv_V E nL h ce sl Q q lo st) : jv_V E nL h ce sl Q pc lo (.int (nI b) :: .int (nI a) :: st) := jv_icmp_ge G hd ht hp (fun z => kt ((nI_leI hb ha).mp z)) (fun z => kf (Nat.not_le.mp (fun w => z ((nI_leI hb ha).mpr w))))
theorem jv_icmp_gtN (G : jv_C E cc own nL) {a b : Nat} {off : Int} {tgt : Nat} (hd : decode cc pc = .ok (.if_icmp .gt off, 3)) (ht : (pc : Int) + off = (tgt : Int)) (hp : pc + 3 = q) (ha : a < 2 ^ 31) (hb : b < 2 ^ 31) (kt : b < a → jv_V E nL h ce sl Q tgt lo st) (kf : a ≤ b → jv_V E nL h ce sl Q q lo st) : jv_V E nL h ce sl Q pc lo (.int (nI b) :: .int (nI a) :: st) := jv_icmp_gt G hd ht hp (fun z => kt ((nI_ltI hb ha).mp z)) (fun z => kf (Nat.not_lt.mp (fun w => z ((nI_ltI hb ha).mpr w))))
theorem jv_icmp_leN (G : jv_C E cc own nL) {a b : Nat} {off : Int} {tgt : Nat} (hd : decode cc pc = .ok (.if_icmp .le off, 3)) (ht : (pc : Int) + off = (tgt : Int)) (hp : pc + 3 = q) (ha : a < 2 ^ 31) (hb : b < 2 ^ 31) (kt : a ≤ b → jv_V E nL h ce sl Q tgt lo st) (kf : b < a → jv_V E nL h ce sl Q q lo st) : jv_V E nL h ce sl Q pc lo (.int (nI b) :: .int (nI a) :: st) := jv_icmp_le G hd ht hp (fun z => kt ((nI_leI ha hb).mp z)) (fun z => kf (Nat.not_le.mp (fun w => z ((nI_leI ha hb).mpr w))))
theorem jv_if_eqB (G : jv_C E cc own nL) {b : Bool} {off : Int} {tgt : Nat} (hd : decode cc pc = .ok (.ifCond .eq off, 3)) (ht : (pc : Int) + off = (tgt : Int)) (hp : pc + 3 = q) (kt : b = false → jv_V E nL h ce sl Q tgt lo st) (kf : b = true → jv_V E nL h ce sl Q q lo st) : jv_V E nL h ce sl Q pc lo (.int (jv_bI b) :: st) := jv_if_eq G hd ht hp (fun z => kt ((jv_bI_0 b).mp z)) (fun z => kf ((jv_bI_n b).mp z))
theorem jv_if_neB (G : jv_C E cc own nL) {b : Bool} {off : Int} {tgt : Nat} (hd : decode cc pc = .ok (.ifCond .ne off, 3)) (ht : (pc : Int) + off = (tgt : Int)) (hp : pc + 3 = q) (kt : b = true → jv_V E nL h ce sl Q tgt lo st) (kf : b = false → jv_V E nL h ce sl Q q lo st) : jv_V E nL h ce sl Q pc lo (.int (jv_bI b) :: st) := jv_if_ne G hd ht hp (fun z => kt ((jv_bI_n b).mp z)) (fun z => kf ((jv_bI_0 b).mp z))
theorem jv_bI_inj (a b : Bool) : jv_bI a = jv_bI b ↔ a = b := by cases a <;> cases b <;> decide
theorem jv_icmp_eqB (G : jv_C E cc own nL) {a b : Bool} {off : Int} {tgt : Nat} (hd : decode cc pc = .ok (.if_icmp .eq off, 3)) (ht : (pc : Int) + off = (tgt : Int)) (hp : pc + 3 = q) (kt : a = b → jv_V E nL h ce sl Q tgt lo st) (kf : ¬ a = b → jv_V E nL h ce sl Q q lo st) : jv_V E nL h ce sl Q pc lo (.int (jv_bI b) :: .int (jv_bI a) :: st) := jv_icmp_eq G hd ht hp (fun z => kt ((jv_bI_inj a b).mp z)) (fun z => kf (fun w => z ((jv_bI_inj a b).mpr w)))
theorem jv_icmp_neB (G : jv_C E cc own nL) {a b : Bool} {off : Int} {tgt : Nat} (hd : decode cc pc = .ok (.if_icmp .ne off, 3)) (ht : (pc : Int) + off = (tgt : Int)) (hp : pc + 3 = q) (kt : ¬ a = b → jv_V E nL h ce sl Q tgt lo st) (kf : a = b → jv_V E nL h ce sl Q q lo st) : jv_V E nL h ce sl Q pc lo (.int (jv_bI b) :: .int (jv_bI a) :: st) := jv_icmp_ne G hd ht hp (fun z => kt (fun w => z ((jv_bI_inj a b).mpr w))) (fun z => kf ((jv_bI_inj a b).mp z))
theorem jv_topI {x y : Int32} (e : x = y) (k : jv_V E nL h ce sl Q pc lo (.int y :: st)) : jv_V E nL h ce sl Q pc lo (.int x :: st) := by rw [e]; exact k
theorem jv_b1 : (1 : Int32) = jv_bI true := rfl
theorem jv_b0 : (0 : Int32) = jv_bI false := rfl
/-- a number or none, as an int -/
def jv_oN (o : Option Nat) : Int32 := match o with
  | none => -1
  | some k => nI k
theorem jv_oN_n : jv_oN none = -1 := rfl
theorem jv_oN_s (k : Nat) : jv_oN (some k) = nI k := rfl
theorem jv_nI_m1 {k : Nat} (h : k < 2 ^ 31) : ¬ nI k = -1 := by
  intro e
  have h1 := nI_toInt h
  rw [e] at h1
  have h2 : ((-1 : Int32)).toInt = -1 := by decide
  omega
theorem jv_oN_m1 {o : Option Nat} (h : ∀ k, o = some k → k < 2 ^ 31) : jv_oN o = -1 ↔ o = none := by
  cases o with
  | none => exact ⟨fun _ => rfl, fun _ => rfl⟩
  | some k => exact ⟨fun e => absurd e (jv_nI_m1 (h k rfl)), fun e => by cases e⟩
theorem jv_oN_inj {a b : Option Nat} (ha : ∀ k, a = some k → k < 2 ^ 31) (hb : ∀ k, b = some k → k < 2 ^ 31) : jv_oN a = jv_oN b ↔ a = b := by
  cases a with
  | none => exact ⟨fun e => ((jv_oN_m1 hb).mp e.symm).symm, fun e => by rw [e]⟩
  | some k =>
    cases b with
    | none => exact ⟨fun e => absurd e (jv_nI_m1 (ha k rfl)), fun e => by cases e⟩
    | some j => exact ⟨fun e => by rw [(nI_eq (ha k rfl) (hb j rfl)).mp e], fun e => by rw [e]⟩
end JVNat

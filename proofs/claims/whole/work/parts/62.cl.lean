/-! THE CLASS's objects. z: fixed addresses by kind and number (0 editions, 1 their arrays of types, 2 their arrays by name, 3 callers (12: the probe's), 4 their arrays of uses, 5 uses (20 a caller; 260: the trial), 6 the archive, its two arrays, comparison, probe, pairs, 7 the comparison's arrays, 8 a type's interfaces, 9 its members, 10 its uppers); T: the type at a place; N: the member of a type at a place -/
def cl_t (z : Nat → Nat → Nat) (N : Nat → Nat → Nat) (h : jv_H) (a : Nat) : Prop := jv_sh h a = some (.inl 5) ∧ jv_P h a 6 = some (z 8 a) ∧ jv_sh h (z 8 a) = some (.inr (.int, 3)) ∧ jv_P h a 8 = some (z 9 a) ∧ jv_sh h (z 9 a) = some (.inr (.object "LinkArchive$Member", 6)) ∧ jv_P h a 12 = some (z 10 a) ∧ jv_sh h (z 10 a) = some (.inr (.int, 10)) ∧ ∀ j, j < 6 → jv_P h (z 9 a) j = some (N a j) ∧ jv_sh h (N a j) = some (.inl 3)
def cl_e (z : Nat → Nat → Nat) (T : Nat → Nat) (h : jv_H) (e : Nat) : Prop := jv_sh h (z 0 e) = some (.inl 2) ∧ jv_P h (z 0 e) 2 = some (z 1 e) ∧ jv_sh h (z 1 e) = some (.inr (.object "LinkArchive$Type", 10)) ∧ jv_P h (z 0 e) 4 = some (z 2 e) ∧ jv_sh h (z 2 e) = some (.inr (.object "LinkArchive$Type", 16)) ∧ jv_I h (z 0 e) 0 = nI e ∧ ∀ k, k < 10 → jv_P h (z 1 e) k = some (T (10 * e + k))
def cl_c (z : Nat → Nat → Nat) (h : jv_H) (c : Nat) : Prop := jv_sh h (z 3 c) = some (.inl 0) ∧ jv_P h (z 3 c) 3 = some (z 4 c) ∧ jv_sh h (z 4 c) = some (.inr (.object "LinkArchive$Use", 20)) ∧ ∀ j, j < 20 → jv_P h (z 4 c) j = some (z 5 (20 * c + j))
/-- values: of a member, a type, a sealed type -/
def cv_M (h : jv_H) (b : Nat) (m : mM) : Prop := jv_I h b 0 = jv_bI (mm_w m) ∧ jv_I h b 1 = jv_bI (mm_c m) ∧ jv_I h b 2 = jv_bI (mm_t m) ∧ jv_I h b 3 = nI (4 * mm_n m + mm_s m) ∧ jv_I h b 4 = nI (mm_a m) ∧ jv_I h b 5 = mm_b m
def m_ks (w : Bool) : List mM → Nat
  | [] => 0
  | m :: l => (if mm_w m = w then 2 ^ (4 * mm_n m + mm_s m) else 0) ^^^ m_ks w l
def cv_T (z : Nat → Nat → Nat) (N : Nat → Nat → Nat) (h : jv_H) (a : Nat) (t : mT) : Prop := jv_I h a 0 = nI (mt_n t) ∧ jv_I h a 1 = jv_bI (mt_i t) ∧ jv_I h a 2 = jv_bI (mt_a t) ∧ jv_I h a 3 = nI (mt_k t) ∧ jv_I h a 4 = jv_bI (mt_p t) ∧ jv_I h a 5 = jv_oN (mt_u t) ∧ jv_I h a 7 = nI (mt_f t).length ∧ jv_I h a 9 = nI (mt_m t).length ∧ jv_L h a 10 = lN (m_ks false (mt_m t)) ∧ jv_L h a 11 = lN (m_ks true (mt_m t)) ∧ (∀ (j : Nat) v, (mt_f t)[j]? = some v → jv_I h (z 8 a) j = nI v) ∧ ∀ (j : Nat) m, (mt_m t)[j]? = some m → cv_M h (N a j) m
def m_um : List Nat → Nat
  | [] => 0
  | v :: l => 2 ^ v ||| m_um l
def cv_U (z : Nat → Nat → Nat) (h : jv_H) (a : Nat) (U : List Nat) : Prop := jv_I h a 13 = nI U.length ∧ jv_I h a 14 = nI (m_um U) ∧ ∀ (j : Nat) v, U[j]? = some v → jv_I h (z 10 a) j = nI v
section CT
variable {z : Nat → Nat → Nat} {N : Nat → Nat → Nat} {h : jv_H} {a : Nat} {t : mT}
theorem ct_0 (r : cv_T z N h a t) : jv_I h a 0 = nI (mt_n t) := r.1
theorem ct_1 (r : cv_T z N h a t) : jv_I h a 1 = jv_bI (mt_i t) := r.2.1
theorem ct_2 (r : cv_T z N h a t) : jv_I h a 2 = jv_bI (mt_a t) := r.2.2.1
theorem ct_3 (r : cv_T z N h a t) : jv_I h a 3 = nI (mt_k t) := r.2.2.2.1
theorem ct_4 (r : cv_T z N h a t) : jv_I h a 4 = jv_bI (mt_p t) := r.2.2.2.2.1
theorem ct_5 (r : cv_T z N h a t) : jv_I h a 5 = jv_oN (mt_u t) := r.2.2.2.2.2.1
theorem ct_7 (r : cv_T z N h a t) : jv_I h a 7 = nI (mt_f t).length := r.2.2.2.2.2.2.1
theorem ct_9 (r : cv_T z N h a t) : jv_I h a 9 = nI (mt_m t).length := r.2.2.2.2.2.2.2.1
theorem ct_10 (r : cv_T z N h a t) : jv_L h a 10 = lN (m_ks false (mt_m t)) := r.2.2.2.2.2.2.2.2.1
theorem ct_11 (r : cv_T z N h a t) : jv_L h a 11 = lN (m_ks true (mt_m t)) := r.2.2.2.2.2.2.2.2.2.1
theorem ct_f (r : cv_T z N h a t) {j v : Nat} (e : (mt_f t)[j]? = some v) : jv_I h (z 8 a) j = nI v := r.2.2.2.2.2.2.2.2.2.2.1 j v e
theorem ct_m (r : cv_T z N h a t) {j : Nat} {m : mM} (e : (mt_m t)[j]? = some m) : cv_M h (N a j) m := r.2.2.2.2.2.2.2.2.2.2.2 j m e
end CT
/-! bits of a long -/
theorem lN_bit {n k : Nat} (hk : k < 64) : ((((lN n).toUInt64 >>> ((nI k).toInt64.toUInt64 &&& Int64.toUInt64 63)).toInt64 &&& 1) = 0) ↔ n.testBit k = false := by
  have hk2 : ((nI k).toInt64.toUInt64 &&& Int64.toUInt64 63).toNat = k := by
    have h1 : (nI k).toInt64 = lN k := nI_l (by omega)
    rw [h1]
    have h2 : (lN k).toUInt64.toNat = k := by
      show (UInt64.ofNat k).toNat = k
      rw [UInt64.toNat_ofNat']
      omega
    rw [UInt64.toNat_and, h2]
    have h3 : (Int64.toUInt64 63).toNat = 2 ^ 6 - 1 := by decide
    rw [h3, Nat.and_two_pow_sub_one_eq_mod]
    omega
  have hn : (lN n).toUInt64.toNat = n % 2 ^ 64 := by
    show (UInt64.ofNat n).toNat = _
    rw [UInt64.toNat_ofNat']
  have key : (((lN n).toUInt64 >>> ((nI k).toInt64.toUInt64 &&& Int64.toUInt64 63)).toInt64 &&& 1).toUInt64.toNat = (n >>> k) % 2 := by
    show (((lN n).toUInt64 >>> ((nI k).toInt64.toUInt64 &&& Int64.toUInt64 63)) &&& 1).toNat = _
    rw [UInt64.toNat_and, UInt64.toNat_shiftRight, hk2, hn, Nat.mod_eq_of_lt hk]
    have h4 : (1 : UInt64).toNat = 2 ^ 1 - 1 := by decide
    rw [h4, Nat.and_two_pow_sub_one_eq_mod, Nat.shiftRight_eq_div_pow, Nat.shiftRight_eq_div_pow]
    have h64 : 2 ^ 64 = 2 ^ k * (2 * 2 ^ (63 - k)) := by
      rw [← Nat.pow_succ', ← Nat.pow_add]
      congr 1
      omega
    rw [h64, Nat.mod_mul_right_div_self, Nat.pow_one, Nat.mod_mul_right_mod]
  have inj : ∀ a b : Int64, a.toUInt64.toNat = b.toUInt64.toNat → a = b := fun a b e => by
    cases a; cases b
    exact congrArg Int64.ofUInt64 (UInt64.toNat_inj.mp e)
  have hz : ((((lN n).toUInt64 >>> ((nI k).toInt64.toUInt64 &&& Int64.toUInt64 63)).toInt64 &&& 1) = 0) ↔ (n >>> k) % 2 = 0 := by
    rw [← key]
    exact ⟨fun e => by rw [e]; rfl, fun e => inj _ _ e⟩
  rw [hz]
  rw [Nat.testBit_eq_decide_div_mod_eq, Nat.shiftRight_eq_div_pow]
  simp

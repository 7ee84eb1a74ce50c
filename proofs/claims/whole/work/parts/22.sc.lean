/-! the reference's scratch: places that no later answer rests on -/
def sx (_x : Nat) (q : Nat → Nat) (a _j : Nat) : Prop := a = q 31
def sc (x : Nat) (q : Nat → Nat) (h0 h : jv_H) : Prop := jv_sh h = jv_sh h0 ∧ (∀ a j, jv_P h a j = jv_P h0 a j) ∧ (∀ a j, jv_L h a j = jv_L h0 a j) ∧ ∀ a j, ¬ sx x q a j → jv_I h a j = jv_I h0 a j
section SC
variable {x : Nat} {q : Nat → Nat} {h0 h h1 : jv_H}
theorem sc.rf : sc x q h h := ⟨rfl, fun _ _ => rfl, fun _ _ => rfl, fun _ _ _ => rfl⟩
theorem sc.tr (a : sc x q h0 h) (b : sc x q h h1) : sc x q h0 h1 := ⟨b.1.trans a.1, fun c j => (b.2.1 c j).trans (a.2.1 c j), fun c j => (b.2.2.1 c j).trans (a.2.2.1 c j), fun c j n => (b.2.2.2 c j n).trans (a.2.2.2 c j n)⟩
theorem sc.wI (a : sc x q h0 h) {b k : Nat} (v : Int32) (hb : sx x q b k) : sc x q h0 (jv_wI h b k v) := ⟨a.1, a.2.1, a.2.2.1, fun c j n => by
  rw [jv_I_wI, if_neg (fun e => n (by rw [e.1, e.2]; exact hb))]
  exact a.2.2.2 c j n⟩
theorem sc.S (a : sc x q h0 h) (hS : rf_S x q h0) : rf_S x q h := by
  refine ⟨by rw [a.1]; exact hS.1, fun k hk hr => ?_, hS.2.2⟩
  rw [a.1, a.2.1]
  exact hS.2.1 k hk hr
theorem rf_x (hS : rf_S x q h) {k : Nat} (hk : k < 42) (hr : rf_arr k = true) : q k ≠ x := by
  intro e
  have h1 := (hS.2.1 k hk hr).2
  rw [e, hS.1] at h1
  cases h1
/-- an array that is no scratch -/
theorem rf_ns (hS : rf_S x q h) {k : Nat} (hk : k < 42) (hr : rf_arr k = true) (hn : k ≠ 31 ∧ k ≠ 34 ∧ k ≠ 35 ∧ k ≠ 36 ∧ k ≠ 37 ∧ k ≠ 38 ∧ k ≠ 39 ∧ k ≠ 40 ∧ k ≠ 41) {j : Nat} : ¬ sx x q (q k) j := by
  have hq : ∀ m, m < 42 → rf_arr m = true → q k = q m → k = m := fun m hm hrm e => hS.2.2 k m hk hm hr hrm e
  intro e
  exact hn.1 (hq 31 (by decide) rfl e)
theorem sc.I (a : sc x q h0 h) (hS : rf_S x q h0) (k : Nat) (hk : k < 42) (hr : rf_arr k = true) (hn : k ≠ 31 ∧ k ≠ 34 ∧ k ≠ 35 ∧ k ≠ 36 ∧ k ≠ 37 ∧ k ≠ 38 ∧ k ≠ 39 ∧ k ≠ 40 ∧ k ≠ 41) (j : Nat) (hj : j ≠ 12 ∨ (k ≠ 22 ∧ k ≠ 23 ∧ k ≠ 24)) : jv_I h (q k) j = jv_I h0 (q k) j := a.2.2.2 _ _ (rf_ns hS hk hr hn)
theorem sc.I2 (a : sc x q h0 h) (hS : rf_S x q h0) (k : Nat) (hk : k < 42) (hr : rf_arr k = true) (hn : k ≠ 31 ∧ k ≠ 34 ∧ k ≠ 35 ∧ k ≠ 36 ∧ k ≠ 37 ∧ k ≠ 38 ∧ k ≠ 39 ∧ k ≠ 40 ∧ k ≠ 41) (j : Nat) : jv_I h (q k) j = jv_I h0 (q k) j := a.2.2.2 _ _ (rf_ns hS hk hr hn)
theorem sc.M (a : sc x q h0 h) (hS : rf_S x q h0) {i : Nat} {m : mM} (r : rf_M q h0 i m) : rf_M q h i m := by
  obtain ⟨r1, r2, r3, r4, r5, r6, r7⟩ := r
  exact ⟨(a.I hS 13 (by decide) rfl (by decide) i (Or.inr (by decide))).trans r1, (a.I hS 14 (by decide) rfl (by decide) i (Or.inr (by decide))).trans r2, (a.I hS 15 (by decide) rfl (by decide) i (Or.inr (by decide))).trans r3, (a.I hS 16 (by decide) rfl (by decide) i (Or.inr (by decide))).trans r4, (a.I hS 17 (by decide) rfl (by decide) i (Or.inr (by decide))).trans r5, (a.I hS 18 (by decide) rfl (by decide) i (Or.inr (by decide))).trans r6, (a.I hS 19 (by decide) rfl (by decide) i (Or.inr (by decide))).trans r7⟩
theorem sc.T (a : sc x q h0 h) (hS : rf_S x q h0) {i : Nat} {t : mT} (r : rf_T q h0 i t) : rf_T q h i t := by
  obtain ⟨r1, r2, r3, r4, r5, r6, r7, r8, r9, r10⟩ := r
  exact ⟨(a.I hS 4 (by decide) rfl (by decide) i (Or.inr (by decide))).trans r1, (a.I hS 5 (by decide) rfl (by decide) i (Or.inr (by decide))).trans r2, (a.I hS 6 (by decide) rfl (by decide) i (Or.inr (by decide))).trans r3, (a.I hS 7 (by decide) rfl (by decide) i (Or.inr (by decide))).trans r4, (a.I hS 8 (by decide) rfl (by decide) i (Or.inr (by decide))).trans r5, (a.I hS 9 (by decide) rfl (by decide) i (Or.inr (by decide))).trans r6, (a.I hS 10 (by decide) rfl (by decide) i (Or.inr (by decide))).trans r7, (a.I hS 12 (by decide) rfl (by decide) i (Or.inr (by decide))).trans r8,
    fun j v e => (a.I hS 11 (by decide) rfl (by decide) _ (Or.inr (by decide))).trans (r9 j v e), fun j m e => a.M hS (r10 j m e)⟩
theorem sc.E (a : sc x q h0 h) (hS : rf_S x q h0) {e : Nat} {ts : List mT} (r : rf_E q h0 e ts) : rf_E q h e ts :=
  ⟨(a.I hS 3 (by decide) rfl (by decide) e (Or.inr (by decide))).trans r.1, r.2.1, fun k t ht => ⟨a.T hS (r.2.2 k t ht).1, (r.2.2 k t ht).2⟩⟩
end SC
/-! what is above what: a way of at most n links up from l to u -/
def m_up (ts : List mT) (l : Nat) : List Nat := match ts.find? (fun t => mt_n t == l) with
  | none => []
  | some t => mt_f t ++ (mt_u t).toList
def m_rch (ts : List mT) : Nat → Nat → Nat → Bool
  | 0, _, _ => false
  | n + 1, l, u => (m_up ts l).any (fun v => v == u || m_rch ts n v u)
def m_abv (ts : List mT) (u l : Nat) : Bool := m_rch ts 16 l u
def m_16 (a : Int32) : Option Nat := if a < 0 ∨ 15 < a then none else some a.toNatClampNeg
def m_isA (ts : List mT) (u l : Int32) : Bool := match m_16 u, m_16 l with
  | some a, some b => m_abv ts a b
  | _, _ => false
/-- the reference's table of an edition -/
def rf_V (q : Nat → Nat) (h : jv_H) (e : Nat) (ts : List mT) : Prop := ∀ u l, u < 16 → l < 16 → jv_I h (q 20) (256 * e + 16 * u + l) = jv_bI (m_abv ts u l)
theorem sc.V {x : Nat} {q : Nat → Nat} {h0 h : jv_H} (a : sc x q h0 h) (hS : rf_S x q h0) {e : Nat} {ts : List mT} (r : rf_V q h0 e ts) : rf_V q h e ts := fun u l hu hl => (a.I hS 20 (by decide) rfl (by decide) _ (Or.inr (by decide))).trans (r u l hu hl)
theorem m_16_s {a : Int32} (h1 : ¬ a < 0) (h2 : ¬ 15 < a) : ∃ k, k < 16 ∧ a = nI k ∧ m_16 a = some k := by
  obtain ⟨k, hk, e⟩ := nI_of2 (M := 15) (n := 15) (by decide) h1 (by
    rw [Int32.le_iff_toInt_le]
    rw [Int32.lt_iff_toInt_lt] at h2
    omega)
  refine ⟨k, by omega, e, ?_⟩
  unfold m_16
  rw [if_neg (by rintro (h | h); exact h1 h; exact h2 h), e, nI_clamp (by omega)]
theorem m_16_n {a : Int32} (h : a < 0 ∨ 15 < a) : m_16 a = none := by unfold m_16; rw [if_pos h]
theorem m_16_nI {k : Nat} (h : k < 16) : m_16 (nI k) = some k := by
  unfold m_16
  have h2 : ¬ (15 : Int32) < nI k := by
    rw [show (15 : Int32) = nI 15 from by decide, nI_ltI (by decide) (by omega)]
    omega
  rw [if_neg (by rintro (h1 | h1); exact nI_pos (by omega) h1; exact h2 h1), nI_clamp (by omega)]
theorem m_isA_nI {ts : List mT} {u l : Nat} (hu : u < 16) (hl : l < 16) : m_isA ts (nI u) (nI l) = m_abv ts u l := by
  unfold m_isA; rw [m_16_nI hu, m_16_nI hl]
/-! the wider one -/
def rx (x : Nat) (q : Nat → Nat) (a j : Nat) : Prop := (a = x ∧ (j = 0 ∨ j = 32 ∨ j = 33)) ∨ a = q 31 ∨ a = q 34 ∨ a = q 35 ∨ a = q 36 ∨ a = q 37 ∨ a = q 38 ∨ a = q 39 ∨ a = q 40 ∨ a = q 41 ∨ ((a = q 22 ∨ a = q 23 ∨ a = q 24) ∧ j = 12)
def rs (x : Nat) (q : Nat → Nat) (h0 h : jv_H) : Prop := jv_sh h = jv_sh h0 ∧ (∀ a j, jv_P h a j = jv_P h0 a j) ∧ (∀ a j, jv_L h a j = jv_L h0 a j) ∧ ∀ a j, ¬ rx x q a j → jv_I h a j = jv_I h0 a j
section RS
variable {x : Nat} {q : Nat → Nat} {h0 h h1 : jv_H}
theorem rs.rf : rs x q h h := ⟨rfl, fun _ _ => rfl, fun _ _ => rfl, fun _ _ _ => rfl⟩
theorem rs.tr (a : rs x q h0 h) (b : rs x q h h1) : rs x q h0 h1 := ⟨b.1.trans a.1, fun c j => (b.2.1 c j).trans (a.2.1 c j), fun c j => (b.2.2.1 c j).trans (a.2.2.1 c j), fun c j n => (b.2.2.2 c j n).trans (a.2.2.2 c j n)⟩
theorem rs.wI (a : rs x q h0 h) {b k : Nat} (v : Int32) (hb : rx x q b k) : rs x q h0 (jv_wI h b k v) := ⟨a.1, a.2.1, a.2.2.1, fun c j n => by
  rw [jv_I_wI, if_neg (fun e => n (by rw [e.1, e.2]; exact hb))]
  exact a.2.2.2 c j n⟩
theorem rs.S (a : rs x q h0 h) (hS : rf_S x q h0) : rf_S x q h := by
  refine ⟨by rw [a.1]; exact hS.1, fun k hk hr => ?_, hS.2.2⟩
  rw [a.1, a.2.1]
  exact hS.2.1 k hk hr
/-- an array that is no scratch -/
theorem rf_nr (hS : rf_S x q h) {k : Nat} (hk : k < 42) (hr : rf_arr k = true) (hn : k ≠ 31 ∧ k ≠ 34 ∧ k ≠ 35 ∧ k ≠ 36 ∧ k ≠ 37 ∧ k ≠ 38 ∧ k ≠ 39 ∧ k ≠ 40 ∧ k ≠ 41) {j : Nat} (hj : j ≠ 12 ∨ (k ≠ 22 ∧ k ≠ 23 ∧ k ≠ 24)) : ¬ rx x q (q k) j := by
  have hq : ∀ m, m < 42 → rf_arr m = true → q k = q m → k = m := fun m hm hrm e => hS.2.2 k m hk hm hr hrm e
  rintro (⟨e, -⟩ | e | e | e | e | e | e | e | e | e | ⟨e | e | e, e2⟩)
  · exact rf_x hS hk hr e
  · exact hn.1 (hq 31 (by decide) rfl e)
  · exact hn.2.1 (hq 34 (by decide) rfl e)
  · exact hn.2.2.1 (hq 35 (by decide) rfl e)
  · exact hn.2.2.2.1 (hq 36 (by decide) rfl e)
  · exact hn.2.2.2.2.1 (hq 37 (by decide) rfl e)
  · exact hn.2.2.2.2.2.1 (hq 38 (by decide) rfl e)
  · exact hn.2.2.2.2.2.2.1 (hq 39 (by decide) rfl e)
  · exact hn.2.2.2.2.2.2.2.1 (hq 40 (by decide) rfl e)
  · exact hn.2.2.2.2.2.2.2.2 (hq 41 (by decide) rfl e)
  · rcases hj with hj | hj
    · exact hj e2
    · exact hj.1 (hq 22 (by decide) rfl e)
  · rcases hj with hj | hj
    · exact hj e2
    · exact hj.2.1 (hq 23 (by decide) rfl e)
  · rcases hj with hj | hj
    · exact hj e2
    · exact hj.2.2 (hq 24 (by decide) rfl e)
theorem rs.I (a : rs x q h0 h) (hS : rf_S x q h0) (k : Nat) (hk : k < 42) (hr : rf_arr k = true) (hn : k ≠ 31 ∧ k ≠ 34 ∧ k ≠ 35 ∧ k ≠ 36 ∧ k ≠ 37 ∧ k ≠ 38 ∧ k ≠ 39 ∧ k ≠ 40 ∧ k ≠ 41) (j : Nat) (hj : j ≠ 12 ∨ (k ≠ 22 ∧ k ≠ 23 ∧ k ≠ 24)) : jv_I h (q k) j = jv_I h0 (q k) j := a.2.2.2 _ _ (rf_nr hS hk hr hn hj)
theorem rs.M (a : rs x q h0 h) (hS : rf_S x q h0) {i : Nat} {m : mM} (r : rf_M q h0 i m) : rf_M q h i m := by
  obtain ⟨r1, r2, r3, r4, r5, r6, r7⟩ := r
  exact ⟨(a.I hS 13 (by decide) rfl (by decide) i (Or.inr (by decide))).trans r1, (a.I hS 14 (by decide) rfl (by decide) i (Or.inr (by decide))).trans r2, (a.I hS 15 (by decide) rfl (by decide) i (Or.inr (by decide))).trans r3, (a.I hS 16 (by decide) rfl (by decide) i (Or.inr (by decide))).trans r4, (a.I hS 17 (by decide) rfl (by decide) i (Or.inr (by decide))).trans r5, (a.I hS 18 (by decide) rfl (by decide) i (Or.inr (by decide))).trans r6, (a.I hS 19 (by decide) rfl (by decide) i (Or.inr (by decide))).trans r7⟩
theorem rs.T (a : rs x q h0 h) (hS : rf_S x q h0) {i : Nat} {t : mT} (r : rf_T q h0 i t) : rf_T q h i t := by
  obtain ⟨r1, r2, r3, r4, r5, r6, r7, r8, r9, r10⟩ := r
  exact ⟨(a.I hS 4 (by decide) rfl (by decide) i (Or.inr (by decide))).trans r1, (a.I hS 5 (by decide) rfl (by decide) i (Or.inr (by decide))).trans r2, (a.I hS 6 (by decide) rfl (by decide) i (Or.inr (by decide))).trans r3, (a.I hS 7 (by decide) rfl (by decide) i (Or.inr (by decide))).trans r4, (a.I hS 8 (by decide) rfl (by decide) i (Or.inr (by decide))).trans r5, (a.I hS 9 (by decide) rfl (by decide) i (Or.inr (by decide))).trans r6, (a.I hS 10 (by decide) rfl (by decide) i (Or.inr (by decide))).trans r7, (a.I hS 12 (by decide) rfl (by decide) i (Or.inr (by decide))).trans r8,
    fun j v e => (a.I hS 11 (by decide) rfl (by decide) _ (Or.inr (by decide))).trans (r9 j v e), fun j m e => a.M hS (r10 j m e)⟩
theorem rs.E (a : rs x q h0 h) (hS : rf_S x q h0) {e : Nat} {ts : List mT} (r : rf_E q h0 e ts) : rf_E q h e ts :=
  ⟨(a.I hS 3 (by decide) rfl (by decide) e (Or.inr (by decide))).trans r.1, r.2.1, fun k t ht => ⟨a.T hS (r.2.2 k t ht).1, (r.2.2 k t ht).2⟩⟩
end RS
theorem rs.V {x : Nat} {q : Nat → Nat} {h0 h : jv_H} (a : rs x q h0 h) (hS : rf_S x q h0) {e : Nat} {ts : List mT} (r : rf_V q h0 e ts) : rf_V q h e ts := fun u l hu hl => (a.I hS 20 (by decide) rfl (by decide) _ (Or.inr (by decide))).trans (r u l hu hl)
theorem sc.rs {x : Nat} {q : Nat → Nat} {h0 h : jv_H} (a : sc x q h0 h) : rs x q h0 h := ⟨a.1, a.2.1, a.2.2.1, fun c j n => a.2.2.2 c j (fun e => n (Or.inr (Or.inl e)))⟩
theorem sc.x {x : Nat} {q : Nat → Nat} {h0 h : jv_H} (a : sc x q h0 h) (hS : rf_S x q h0) (j : Nat) : jv_I h x j = jv_I h0 x j := a.2.2.2 x j (fun e => rf_x hS (k := 31) (by decide) rfl e.symm)

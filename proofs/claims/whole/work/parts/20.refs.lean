/-! THE REFERENCE's object: x, its arrays q k by the number of the field -/
def rf_arr (k : Nat) : Bool := !(k == 0 || k == 1 || k == 21 || k == 32 || k == 33)
def rf_ty (k : Nat) : FieldType := if k = 2 ∨ k = 5 ∨ k = 6 ∨ k = 8 ∨ k = 17 ∨ k = 19 ∨ k = 20 ∨ k = 31 ∨ k = 40 then .boolean else .int
def rf_n (k : Nat) : Nat := match k with
  | 2 => 8
  | 3 => 8
  | 4 => 80
  | 5 => 80
  | 6 => 80
  | 7 => 80
  | 8 => 80
  | 9 => 80
  | 10 => 80
  | 11 => 240
  | 12 => 80
  | 13 => 480
  | 14 => 480
  | 15 => 480
  | 16 => 480
  | 17 => 480
  | 18 => 480
  | 19 => 480
  | 20 => 2048
  | 22 => 13
  | 23 => 13
  | 24 => 13
  | 25 => 13
  | 26 => 260
  | 27 => 260
  | 28 => 260
  | 29 => 260
  | 30 => 260
  | 31 => 10
  | 34 => 1400
  | 35 => 1400
  | 36 => 1400
  | 37 => 1400
  | 38 => 1400
  | 39 => 1400
  | 40 => 480
  | 41 => 480
  | _ => 0
def rf_S (x : Nat) (q : Nat → Nat) (h : jv_H) : Prop := jv_sh h x = some (.inl 8) ∧ (∀ k, k < 42 → rf_arr k = true → jv_P h x k = some (q k) ∧ jv_sh h (q k) = some (.inr (rf_ty k, rf_n k))) ∧ ∀ i j, i < 42 → j < 42 → rf_arr i = true → rf_arr j = true → q i = q j → i = j
theorem rf_p2 {x : Nat} {q : Nat → Nat} {h : jv_H} (hS : rf_S x q h) : jv_P h x 2 = some (q 2) := (hS.2.1 2 (by decide) rfl).1
theorem rf_a2 {x : Nat} {q : Nat → Nat} {h : jv_H} (hS : rf_S x q h) : jv_sh h (q 2) = some (.inr (.boolean, 8)) := (hS.2.1 2 (by decide) rfl).2
theorem rf_p3 {x : Nat} {q : Nat → Nat} {h : jv_H} (hS : rf_S x q h) : jv_P h x 3 = some (q 3) := (hS.2.1 3 (by decide) rfl).1
theorem rf_a3 {x : Nat} {q : Nat → Nat} {h : jv_H} (hS : rf_S x q h) : jv_sh h (q 3) = some (.inr (.int, 8)) := (hS.2.1 3 (by decide) rfl).2
theorem rf_p4 {x : Nat} {q : Nat → Nat} {h : jv_H} (hS : rf_S x q h) : jv_P h x 4 = some (q 4) := (hS.2.1 4 (by decide) rfl).1
theorem rf_a4 {x : Nat} {q : Nat → Nat} {h : jv_H} (hS : rf_S x q h) : jv_sh h (q 4) = some (.inr (.int, 80)) := (hS.2.1 4 (by decide) rfl).2
theorem rf_p5 {x : Nat} {q : Nat → Nat} {h : jv_H} (hS : rf_S x q h) : jv_P h x 5 = some (q 5) := (hS.2.1 5 (by decide) rfl).1
theorem rf_a5 {x : Nat} {q : Nat → Nat} {h : jv_H} (hS : rf_S x q h) : jv_sh h (q 5) = some (.inr (.boolean, 80)) := (hS.2.1 5 (by decide) rfl).2
theorem rf_p6 {x : Nat} {q : Nat → Nat} {h : jv_H} (hS : rf_S x q h) : jv_P h x 6 = some (q 6) := (hS.2.1 6 (by decide) rfl).1
theorem rf_a6 {x : Nat} {q : Nat → Nat} {h : jv_H} (hS : rf_S x q h) : jv_sh h (q 6) = some (.inr (.boolean, 80)) := (hS.2.1 6 (by decide) rfl).2
theorem rf_p7 {x : Nat} {q : Nat → Nat} {h : jv_H} (hS : rf_S x q h) : jv_P h x 7 = some (q 7) := (hS.2.1 7 (by decide) rfl).1
theorem rf_a7 {x : Nat} {q : Nat → Nat} {h : jv_H} (hS : rf_S x q h) : jv_sh h (q 7) = some (.inr (.int, 80)) := (hS.2.1 7 (by decide) rfl).2
theorem rf_p8 {x : Nat} {q : Nat → Nat} {h : jv_H} (hS : rf_S x q h) : jv_P h x 8 = some (q 8) := (hS.2.1 8 (by decide) rfl).1
theorem rf_a8 {x : Nat} {q : Nat → Nat} {h : jv_H} (hS : rf_S x q h) : jv_sh h (q 8) = some (.inr (.boolean, 80)) := (hS.2.1 8 (by decide) rfl).2
theorem rf_p9 {x : Nat} {q : Nat → Nat} {h : jv_H} (hS : rf_S x q h) : jv_P h x 9 = some (q 9) := (hS.2.1 9 (by decide) rfl).1
theorem rf_a9 {x : Nat} {q : Nat → Nat} {h : jv_H} (hS : rf_S x q h) : jv_sh h (q 9) = some (.inr (.int, 80)) := (hS.2.1 9 (by decide) rfl).2
theorem rf_p10 {x : Nat} {q : Nat → Nat} {h : jv_H} (hS : rf_S x q h) : jv_P h x 10 = some (q 10) := (hS.2.1 10 (by decide) rfl).1
theorem rf_a10 {x : Nat} {q : Nat → Nat} {h : jv_H} (hS : rf_S x q h) : jv_sh h (q 10) = some (.inr (.int, 80)) := (hS.2.1 10 (by decide) rfl).2
theorem rf_p11 {x : Nat} {q : Nat → Nat} {h : jv_H} (hS : rf_S x q h) : jv_P h x 11 = some (q 11) := (hS.2.1 11 (by decide) rfl).1
theorem rf_a11 {x : Nat} {q : Nat → Nat} {h : jv_H} (hS : rf_S x q h) : jv_sh h (q 11) = some (.inr (.int, 240)) := (hS.2.1 11 (by decide) rfl).2
theorem rf_p12 {x : Nat} {q : Nat → Nat} {h : jv_H} (hS : rf_S x q h) : jv_P h x 12 = some (q 12) := (hS.2.1 12 (by decide) rfl).1
theorem rf_a12 {x : Nat} {q : Nat → Nat} {h : jv_H} (hS : rf_S x q h) : jv_sh h (q 12) = some (.inr (.int, 80)) := (hS.2.1 12 (by decide) rfl).2
theorem rf_p13 {x : Nat} {q : Nat → Nat} {h : jv_H} (hS : rf_S x q h) : jv_P h x 13 = some (q 13) := (hS.2.1 13 (by decide) rfl).1
theorem rf_a13 {x : Nat} {q : Nat → Nat} {h : jv_H} (hS : rf_S x q h) : jv_sh h (q 13) = some (.inr (.int, 480)) := (hS.2.1 13 (by decide) rfl).2
theorem rf_p14 {x : Nat} {q : Nat → Nat} {h : jv_H} (hS : rf_S x q h) : jv_P h x 14 = some (q 14) := (hS.2.1 14 (by decide) rfl).1
theorem rf_a14 {x : Nat} {q : Nat → Nat} {h : jv_H} (hS : rf_S x q h) : jv_sh h (q 14) = some (.inr (.int, 480)) := (hS.2.1 14 (by decide) rfl).2
theorem rf_p15 {x : Nat} {q : Nat → Nat} {h : jv_H} (hS : rf_S x q h) : jv_P h x 15 = some (q 15) := (hS.2.1 15 (by decide) rfl).1
theorem rf_a15 {x : Nat} {q : Nat → Nat} {h : jv_H} (hS : rf_S x q h) : jv_sh h (q 15) = some (.inr (.int, 480)) := (hS.2.1 15 (by decide) rfl).2
theorem rf_p16 {x : Nat} {q : Nat → Nat} {h : jv_H} (hS : rf_S x q h) : jv_P h x 16 = some (q 16) := (hS.2.1 16 (by decide) rfl).1
theorem rf_a16 {x : Nat} {q : Nat → Nat} {h : jv_H} (hS : rf_S x q h) : jv_sh h (q 16) = some (.inr (.int, 480)) := (hS.2.1 16 (by decide) rfl).2
theorem rf_p17 {x : Nat} {q : Nat → Nat} {h : jv_H} (hS : rf_S x q h) : jv_P h x 17 = some (q 17) := (hS.2.1 17 (by decide) rfl).1
theorem rf_a17 {x : Nat} {q : Nat → Nat} {h : jv_H} (hS : rf_S x q h) : jv_sh h (q 17) = some (.inr (.boolean, 480)) := (hS.2.1 17 (by decide) rfl).2
theorem rf_p18 {x : Nat} {q : Nat → Nat} {h : jv_H} (hS : rf_S x q h) : jv_P h x 18 = some (q 18) := (hS.2.1 18 (by decide) rfl).1
theorem rf_a18 {x : Nat} {q : Nat → Nat} {h : jv_H} (hS : rf_S x q h) : jv_sh h (q 18) = some (.inr (.int, 480)) := (hS.2.1 18 (by decide) rfl).2
theorem rf_p19 {x : Nat} {q : Nat → Nat} {h : jv_H} (hS : rf_S x q h) : jv_P h x 19 = some (q 19) := (hS.2.1 19 (by decide) rfl).1
theorem rf_a19 {x : Nat} {q : Nat → Nat} {h : jv_H} (hS : rf_S x q h) : jv_sh h (q 19) = some (.inr (.boolean, 480)) := (hS.2.1 19 (by decide) rfl).2
theorem rf_p20 {x : Nat} {q : Nat → Nat} {h : jv_H} (hS : rf_S x q h) : jv_P h x 20 = some (q 20) := (hS.2.1 20 (by decide) rfl).1
theorem rf_a20 {x : Nat} {q : Nat → Nat} {h : jv_H} (hS : rf_S x q h) : jv_sh h (q 20) = some (.inr (.boolean, 2048)) := (hS.2.1 20 (by decide) rfl).2
theorem rf_p22 {x : Nat} {q : Nat → Nat} {h : jv_H} (hS : rf_S x q h) : jv_P h x 22 = some (q 22) := (hS.2.1 22 (by decide) rfl).1
theorem rf_a22 {x : Nat} {q : Nat → Nat} {h : jv_H} (hS : rf_S x q h) : jv_sh h (q 22) = some (.inr (.int, 13)) := (hS.2.1 22 (by decide) rfl).2
theorem rf_p23 {x : Nat} {q : Nat → Nat} {h : jv_H} (hS : rf_S x q h) : jv_P h x 23 = some (q 23) := (hS.2.1 23 (by decide) rfl).1
theorem rf_a23 {x : Nat} {q : Nat → Nat} {h : jv_H} (hS : rf_S x q h) : jv_sh h (q 23) = some (.inr (.int, 13)) := (hS.2.1 23 (by decide) rfl).2
theorem rf_p24 {x : Nat} {q : Nat → Nat} {h : jv_H} (hS : rf_S x q h) : jv_P h x 24 = some (q 24) := (hS.2.1 24 (by decide) rfl).1
theorem rf_a24 {x : Nat} {q : Nat → Nat} {h : jv_H} (hS : rf_S x q h) : jv_sh h (q 24) = some (.inr (.int, 13)) := (hS.2.1 24 (by decide) rfl).2
theorem rf_p25 {x : Nat} {q : Nat → Nat} {h : jv_H} (hS : rf_S x q h) : jv_P h x 25 = some (q 25) := (hS.2.1 25 (by decide) rfl).1
theorem rf_a25 {x : Nat} {q : Nat → Nat} {h : jv_H} (hS : rf_S x q h) : jv_sh h (q 25) = some (.inr (.int, 13)) := (hS.2.1 25 (by decide) rfl).2
theorem rf_p26 {x : Nat} {q : Nat → Nat} {h : jv_H} (hS : rf_S x q h) : jv_P h x 26 = some (q 26) := (hS.2.1 26 (by decide) rfl).1
theorem rf_a26 {x : Nat} {q : Nat → Nat} {h : jv_H} (hS : rf_S x q h) : jv_sh h (q 26) = some (.inr (.int, 260)) := (hS.2.1 26 (by decide) rfl).2
theorem rf_p27 {x : Nat} {q : Nat → Nat} {h : jv_H} (hS : rf_S x q h) : jv_P h x 27 = some (q 27) := (hS.2.1 27 (by decide) rfl).1
theorem rf_a27 {x : Nat} {q : Nat → Nat} {h : jv_H} (hS : rf_S x q h) : jv_sh h (q 27) = some (.inr (.int, 260)) := (hS.2.1 27 (by decide) rfl).2
theorem rf_p28 {x : Nat} {q : Nat → Nat} {h : jv_H} (hS : rf_S x q h) : jv_P h x 28 = some (q 28) := (hS.2.1 28 (by decide) rfl).1
theorem rf_a28 {x : Nat} {q : Nat → Nat} {h : jv_H} (hS : rf_S x q h) : jv_sh h (q 28) = some (.inr (.int, 260)) := (hS.2.1 28 (by decide) rfl).2
theorem rf_p29 {x : Nat} {q : Nat → Nat} {h : jv_H} (hS : rf_S x q h) : jv_P h x 29 = some (q 29) := (hS.2.1 29 (by decide) rfl).1
theorem rf_a29 {x : Nat} {q : Nat → Nat} {h : jv_H} (hS : rf_S x q h) : jv_sh h (q 29) = some (.inr (.int, 260)) := (hS.2.1 29 (by decide) rfl).2
theorem rf_p30 {x : Nat} {q : Nat → Nat} {h : jv_H} (hS : rf_S x q h) : jv_P h x 30 = some (q 30) := (hS.2.1 30 (by decide) rfl).1
theorem rf_a30 {x : Nat} {q : Nat → Nat} {h : jv_H} (hS : rf_S x q h) : jv_sh h (q 30) = some (.inr (.int, 260)) := (hS.2.1 30 (by decide) rfl).2
theorem rf_p31 {x : Nat} {q : Nat → Nat} {h : jv_H} (hS : rf_S x q h) : jv_P h x 31 = some (q 31) := (hS.2.1 31 (by decide) rfl).1
theorem rf_a31 {x : Nat} {q : Nat → Nat} {h : jv_H} (hS : rf_S x q h) : jv_sh h (q 31) = some (.inr (.boolean, 10)) := (hS.2.1 31 (by decide) rfl).2
theorem rf_p34 {x : Nat} {q : Nat → Nat} {h : jv_H} (hS : rf_S x q h) : jv_P h x 34 = some (q 34) := (hS.2.1 34 (by decide) rfl).1
theorem rf_a34 {x : Nat} {q : Nat → Nat} {h : jv_H} (hS : rf_S x q h) : jv_sh h (q 34) = some (.inr (.int, 1400)) := (hS.2.1 34 (by decide) rfl).2
theorem rf_p35 {x : Nat} {q : Nat → Nat} {h : jv_H} (hS : rf_S x q h) : jv_P h x 35 = some (q 35) := (hS.2.1 35 (by decide) rfl).1
theorem rf_a35 {x : Nat} {q : Nat → Nat} {h : jv_H} (hS : rf_S x q h) : jv_sh h (q 35) = some (.inr (.int, 1400)) := (hS.2.1 35 (by decide) rfl).2
theorem rf_p36 {x : Nat} {q : Nat → Nat} {h : jv_H} (hS : rf_S x q h) : jv_P h x 36 = some (q 36) := (hS.2.1 36 (by decide) rfl).1
theorem rf_a36 {x : Nat} {q : Nat → Nat} {h : jv_H} (hS : rf_S x q h) : jv_sh h (q 36) = some (.inr (.int, 1400)) := (hS.2.1 36 (by decide) rfl).2
theorem rf_p37 {x : Nat} {q : Nat → Nat} {h : jv_H} (hS : rf_S x q h) : jv_P h x 37 = some (q 37) := (hS.2.1 37 (by decide) rfl).1
theorem rf_a37 {x : Nat} {q : Nat → Nat} {h : jv_H} (hS : rf_S x q h) : jv_sh h (q 37) = some (.inr (.int, 1400)) := (hS.2.1 37 (by decide) rfl).2
theorem rf_p38 {x : Nat} {q : Nat → Nat} {h : jv_H} (hS : rf_S x q h) : jv_P h x 38 = some (q 38) := (hS.2.1 38 (by decide) rfl).1
theorem rf_a38 {x : Nat} {q : Nat → Nat} {h : jv_H} (hS : rf_S x q h) : jv_sh h (q 38) = some (.inr (.int, 1400)) := (hS.2.1 38 (by decide) rfl).2
theorem rf_p39 {x : Nat} {q : Nat → Nat} {h : jv_H} (hS : rf_S x q h) : jv_P h x 39 = some (q 39) := (hS.2.1 39 (by decide) rfl).1
theorem rf_a39 {x : Nat} {q : Nat → Nat} {h : jv_H} (hS : rf_S x q h) : jv_sh h (q 39) = some (.inr (.int, 1400)) := (hS.2.1 39 (by decide) rfl).2
theorem rf_p40 {x : Nat} {q : Nat → Nat} {h : jv_H} (hS : rf_S x q h) : jv_P h x 40 = some (q 40) := (hS.2.1 40 (by decide) rfl).1
theorem rf_a40 {x : Nat} {q : Nat → Nat} {h : jv_H} (hS : rf_S x q h) : jv_sh h (q 40) = some (.inr (.boolean, 480)) := (hS.2.1 40 (by decide) rfl).2
theorem rf_p41 {x : Nat} {q : Nat → Nat} {h : jv_H} (hS : rf_S x q h) : jv_P h x 41 = some (q 41) := (hS.2.1 41 (by decide) rfl).1
theorem rf_a41 {x : Nat} {q : Nat → Nat} {h : jv_H} (hS : rf_S x q h) : jv_sh h (q 41) = some (.inr (.int, 480)) := (hS.2.1 41 (by decide) rfl).2
/-- the first place from k on, of n, at which p holds -/
def sf (p : Nat → Bool) : Nat → Nat → Option Nat
  | 0, _ => none
  | n + 1, k => if p k then some k else sf p n (k + 1)
/-! THE MATHEMATICAL STATE. A member: method or not, name, sort, access, static, body, constant. A type: name, interface, abstract, package, public, super, interfaces, members. An edition: sealed, types. A use: kind, type, name, sort, receiver. A caller: edition, package, super, uses. -/
abbrev mM : Type := Bool × Nat × Nat × Nat × Bool × Int32 × Bool
def mm_w (m : mM) : Bool := m.1
def mm_n (m : mM) : Nat := m.2.1
def mm_s (m : mM) : Nat := m.2.2.1
def mm_a (m : mM) : Nat := m.2.2.2.1
def mm_t (m : mM) : Bool := m.2.2.2.2.1
def mm_b (m : mM) : Int32 := m.2.2.2.2.2.1
def mm_c (m : mM) : Bool := m.2.2.2.2.2.2
abbrev mT : Type := Nat × Bool × Bool × Nat × Bool × Option Nat × List Nat × List mM
def mt_n (t : mT) : Nat := t.1
def mt_i (t : mT) : Bool := t.2.1
def mt_a (t : mT) : Bool := t.2.2.1
def mt_k (t : mT) : Nat := t.2.2.2.1
def mt_p (t : mT) : Bool := t.2.2.2.2.1
def mt_u (t : mT) : Option Nat := t.2.2.2.2.2.1
def mt_f (t : mT) : List Nat := t.2.2.2.2.2.2.1
def mt_m (t : mT) : List mM := t.2.2.2.2.2.2.2
abbrev mE : Type := Bool × List mT
abbrev mU : Type := Nat × Int32 × Int32 × Int32 × Int32
abbrev mC : Type := Nat × Nat × Option Nat × List mU
abbrev mA : Type := List mE × List mC
def ma_s (M : mA) (e : Nat) : Bool := ((M.1[e]?).map (fun E => E.1)).getD false
def ma_t (M : mA) (e : Nat) : List mT := ((M.1[e]?).map (fun E => E.2)).getD []
/-- within bounds -/
def mm_ok (m : mM) : Prop := mm_n m < 16 ∧ mm_s m < 4 ∧ mm_a m < 4 ∧ (mm_b m = -1 ∧ mm_w m = true ∨ ∃ k, k < 10 ∧ mm_b m = nI k)
def mt_ok (t : mT) : Prop := mt_n t < 16 ∧ mt_k t < 4 ∧ (∀ u, mt_u t = some u → u < 16 ∧ mt_i t = false) ∧ (mt_f t).length ≤ 3 ∧ (∀ v ∈ mt_f t, v < 16) ∧ (mt_m t).length ≤ 6 ∧ ∀ m ∈ mt_m t, mm_ok m
/-- a type's place by its name; a member's place -/
def m_at (ts : List mT) (n : Int32) : Option Nat := sf (fun k => (ts[k]?).any (fun t => decide (nI (mt_n t) = n))) ts.length 0
def m_ownT (w n s : Int32) (m : mM) : Bool := decide (jv_bI (mm_w m) = w ∧ nI (mm_n m) = n ∧ nI (mm_s m) = s)
def m_own (t : mT) (w n s : Int32) : Option Nat := sf (fun j => ((mt_m t)[j]?).any (m_ownT w n s)) (mt_m t).length 0
/-- the reference's rows of a member, of a type, of an edition -/
def rf_M (q : Nat → Nat) (h : jv_H) (i : Nat) (m : mM) : Prop := jv_I h (q 13) i = jv_bI (mm_w m) ∧ jv_I h (q 14) i = nI (mm_n m) ∧ jv_I h (q 15) i = nI (mm_s m) ∧ jv_I h (q 16) i = nI (mm_a m) ∧ jv_I h (q 17) i = jv_bI (mm_t m) ∧ jv_I h (q 18) i = mm_b m ∧ jv_I h (q 19) i = jv_bI (mm_c m)
def rf_T (q : Nat → Nat) (h : jv_H) (i : Nat) (t : mT) : Prop := jv_I h (q 4) i = nI (mt_n t) ∧ jv_I h (q 5) i = jv_bI (mt_i t) ∧ jv_I h (q 6) i = jv_bI (mt_a t) ∧ jv_I h (q 7) i = nI (mt_k t) ∧ jv_I h (q 8) i = jv_bI (mt_p t) ∧ jv_I h (q 9) i = jv_oN (mt_u t) ∧ jv_I h (q 10) i = nI (mt_f t).length ∧ jv_I h (q 12) i = nI (mt_m t).length ∧ (∀ j v, (mt_f t)[j]? = some v → jv_I h (q 11) (3 * i + j) = nI v) ∧ ∀ j m, (mt_m t)[j]? = some m → rf_M q h (6 * i + j) m
def rf_E (q : Nat → Nat) (h : jv_H) (e : Nat) (ts : List mT) : Prop := jv_I h (q 3) e = nI ts.length ∧ ts.length ≤ 10 ∧ ∀ k t, ts[k]? = some t → rf_T q h (10 * e + k) t ∧ mt_ok t
theorem rt_4 {q : Nat → Nat} {h : jv_H} {i : Nat} {t : mT} (r : rf_T q h i t) : jv_I h (q 4) i = nI (mt_n t) := r.1
theorem rt_5 {q : Nat → Nat} {h : jv_H} {i : Nat} {t : mT} (r : rf_T q h i t) : jv_I h (q 5) i = jv_bI (mt_i t) := r.2.1
theorem rt_6 {q : Nat → Nat} {h : jv_H} {i : Nat} {t : mT} (r : rf_T q h i t) : jv_I h (q 6) i = jv_bI (mt_a t) := r.2.2.1
theorem rt_7 {q : Nat → Nat} {h : jv_H} {i : Nat} {t : mT} (r : rf_T q h i t) : jv_I h (q 7) i = nI (mt_k t) := r.2.2.2.1
theorem rt_8 {q : Nat → Nat} {h : jv_H} {i : Nat} {t : mT} (r : rf_T q h i t) : jv_I h (q 8) i = jv_bI (mt_p t) := r.2.2.2.2.1
theorem rt_9 {q : Nat → Nat} {h : jv_H} {i : Nat} {t : mT} (r : rf_T q h i t) : jv_I h (q 9) i = jv_oN (mt_u t) := r.2.2.2.2.2.1
theorem rt_10 {q : Nat → Nat} {h : jv_H} {i : Nat} {t : mT} (r : rf_T q h i t) : jv_I h (q 10) i = nI (mt_f t).length := r.2.2.2.2.2.2.1
theorem rt_12 {q : Nat → Nat} {h : jv_H} {i : Nat} {t : mT} (r : rf_T q h i t) : jv_I h (q 12) i = nI (mt_m t).length := r.2.2.2.2.2.2.2.1
theorem rt_11 {q : Nat → Nat} {h : jv_H} {i : Nat} {t : mT} (r : rf_T q h i t) {j v : Nat} (e : (mt_f t)[j]? = some v) : jv_I h (q 11) (3 * i + j) = nI v := r.2.2.2.2.2.2.2.2.1 j v e
theorem rt_m {q : Nat → Nat} {h : jv_H} {i : Nat} {t : mT} (r : rf_T q h i t) {j : Nat} {m : mM} (e : (mt_m t)[j]? = some m) : rf_M q h (6 * i + j) m := r.2.2.2.2.2.2.2.2.2 j m e
theorem jv_getLt {α : Type} {l : List α} {k : Nat} (h : k < l.length) : ∃ t, l[k]? = some t := ⟨l[k], List.getElem?_eq_getElem h⟩
theorem jv_ltGet {α : Type} {l : List α} {k : Nat} {t : α} (h : l[k]? = some t) : k < l.length := (List.getElem?_eq_some_iff.mp h).1
theorem jv_oN_map {o : Option Nat} {f : Nat → Nat} : jv_oN (o.map f) = match o with
  | none => -1
  | some k => nI (f k) := by cases o <;> rfl
theorem sf_none {p : Nat → Bool} : ∀ {n k : Nat}, sf p n k = none ↔ ∀ j, k ≤ j → j < k + n → p j = false
  | 0, k => ⟨fun _ j h1 h2 => by omega, fun _ => rfl⟩
  | n + 1, k => by
    rw [sf]
    by_cases hp : p k = true
    · rw [if_pos hp]
      exact ⟨fun h => (by cases h), fun h => (by rw [h k (Nat.le_refl k) (by omega)] at hp; cases hp)⟩
    · rw [if_neg hp, sf_none]
      constructor
      · intro h j h1 h2
        by_cases hj : j = k
        · rw [hj]; simpa using hp
        · exact h j (by omega) (by omega)
      · intro h j h1 h2
        exact h j (by omega) (by omega)
theorem sf_some {p : Nat → Bool} : ∀ {n k j : Nat}, sf p n k = some j → k ≤ j ∧ j < k + n ∧ p j = true ∧ ∀ i, k ≤ i → i < j → p i = false
  | 0, k, j => fun h => by cases h
  | n + 1, k, j => by
    rw [sf]
    by_cases hp : p k = true
    · rw [if_pos hp]
      intro h
      cases h
      exact ⟨Nat.le_refl k, by omega, hp, fun i h1 h2 => by omega⟩
    · rw [if_neg hp]
      intro h
      obtain ⟨h1, h2, h3, h4⟩ := sf_some h
      refine ⟨by omega, by omega, h3, fun i h5 h6 => ?_⟩
      by_cases hi : i = k
      · rw [hi]; simpa using hp
      · exact h4 i (by omega) h6
theorem m_at_some {ts : List mT} {n : Int32} {k : Nat} (h : m_at ts n = some k) : ∃ t, ts[k]? = some t ∧ nI (mt_n t) = n ∧ k < ts.length := by
  obtain ⟨-, h2, h3, -⟩ := sf_some h
  have h2 : k < ts.length := by omega
  refine ⟨ts[k], List.getElem?_eq_getElem h2, ?_, h2⟩
  simpa [List.getElem?_eq_getElem h2] using h3
theorem m_own_some {t : mT} {w n s : Int32} {j : Nat} (h : m_own t w n s = some j) : ∃ m, (mt_m t)[j]? = some m ∧ jv_bI (mm_w m) = w ∧ nI (mm_n m) = n ∧ nI (mm_s m) = s ∧ j < (mt_m t).length := by
  obtain ⟨-, h2, h3, -⟩ := sf_some h
  have h2 : j < (mt_m t).length := by omega
  refine ⟨(mt_m t)[j], List.getElem?_eq_getElem h2, ?_⟩
  have h4 : m_ownT w n s (mt_m t)[j] = true := by simpa [List.getElem?_eq_getElem h2] using h3
  have h5 := of_decide_eq_true h4
  exact ⟨h5.1, h5.2.1, h5.2.2, h2⟩

/-! DIFFERENCES. A member's key: 64 for a method, 4 times the name, the sort. -/
def kk (m : mM) : Nat := (if mm_w m then 64 else 0) + 4 * mm_n m + mm_s m
def m_kj (t : mT) (K : Nat) : Option Nat := m_own t (nI (K / 64)) (nI (K % 64 / 4)) (nI (K % 4))
theorem kk_lt {m : mM} (ho : mm_ok m) : kk m < 128 := by
  have h1 := ho.1
  have h2 := ho.2.1
  unfold kk
  split <;> omega
theorem kk_of {m : mM} (ho : mm_ok m) {K : Nat} (hK : K < 128) (h1 : jv_bI (mm_w m) = nI (K / 64)) (h2 : nI (mm_n m) = nI (K % 64 / 4)) (h3 : nI (mm_s m) = nI (K % 4)) : kk m = K := by
  have a1 := ho.1
  have a2 := ho.2.1
  have h2 := (nI_eq (by omega) (by omega)).mp h2
  have h3 := (nI_eq (by omega) (by omega)).mp h3
  unfold kk
  cases hw : mm_w m with
  | true =>
    rw [hw] at h1
    have h1 := (nI_eq (a := 1) (b := K / 64) (by omega) (by omega)).mp h1
    rw [if_pos rfl]
    omega
  | false =>
    rw [hw] at h1
    have h1 := (nI_eq (a := 0) (b := K / 64) (by omega) (by omega)).mp h1
    rw [if_neg (by decide)]
    omega
theorem kk_to {m : mM} (ho : mm_ok m) {K : Nat} (h : kk m = K) : jv_bI (mm_w m) = nI (K / 64) ∧ nI (mm_n m) = nI (K % 64 / 4) ∧ nI (mm_s m) = nI (K % 4) := by
  have a1 := ho.1
  have a2 := ho.2.1
  unfold kk at h
  cases hw : mm_w m with
  | true =>
    rw [hw, if_pos rfl] at h
    exact ⟨by rw [show K / 64 = 1 by omega]; rfl, congrArg nI (by omega), congrArg nI (by omega)⟩
  | false =>
    rw [hw, if_neg (by decide)] at h
    exact ⟨by rw [show K / 64 = 0 by omega]; rfl, congrArg nI (by omega), congrArg nI (by omega)⟩
theorem kj_some {t : mT} (ho : mt_ok t) {K j : Nat} (hK : K < 128) (h : m_kj t K = some j) : ∃ m, (mt_m t)[j]? = some m ∧ kk m = K := by
  obtain ⟨m, h1, h2, h3, h4, -⟩ := m_own_some h
  exact ⟨m, h1, kk_of (ho.2.2.2.2.2.2 m (List.mem_of_getElem? h1)) hK h2 h3 h4⟩
theorem kj_none {t : mT} (ho : mt_ok t) {K : Nat} (h : m_kj t K = none) : ∀ (j : Nat) m, (mt_m t)[j]? = some m → kk m ≠ K := by
  intro j m hj e
  have h1 := sf_none.mp h j (Nat.zero_le _) (by have := jv_ltGet hj; omega)
  rw [hj] at h1
  have h2 := kk_to (ho.2.2.2.2.2.2 m (List.mem_of_getElem? hj)) e
  have h3 : m_ownT (nI (K / 64)) (nI (K % 64 / 4)) (nI (K % 4)) m = true := decide_eq_true h2
  rw [show Option.any (m_ownT (nI (K / 64)) (nI (K % 64 / 4)) (nI (K % 4))) (some m) = true from h3] at h1
  cases h1
def m_uk (t : mT) : Prop := ∀ (i j : Nat) (m m' : mM), (mt_m t)[i]? = some m → (mt_m t)[j]? = some m' → kk m = kk m' → i = j
def m_ty1 (ts : List mT) (n : Nat) : Option mT := (m_at ts (nI n)).bind (fun i => ts[i]?)
def m_km (o : Option mT) (K : Nat) : Option mM := o.bind (fun t => (m_kj t K).bind (fun j => (mt_m t)[j]?))
theorem ty1_n {ts : List mT} {n : Nat} (h : m_at ts (nI n) = none) : m_ty1 ts n = none := by unfold m_ty1; rw [h]; rfl
theorem ty1_s {ts : List mT} {n i : Nat} {t : mT} (h : m_at ts (nI n) = some i) (ht : ts[i]? = some t) : m_ty1 ts n = some t := by unfold m_ty1; rw [h]; exact ht
theorem km_0 {K : Nat} : m_km none K = none := rfl
theorem km_n {t : mT} {K : Nat} (h : m_kj t K = none) : m_km (some t) K = none := by unfold m_km; rw [Option.bind_some, h]; rfl
theorem km_s {t : mT} {K j : Nat} {m : mM} (h : m_kj t K = some j) (hm : (mt_m t)[j]? = some m) : m_km (some t) K = some m := by unfold m_km; rw [Option.bind_some, h]; exact hm
def m_like (m o : mM) : Bool := decide (mm_t m = mm_t o) && decide (mm_b m = mm_b o) && decide (mm_c m = mm_c o)
def m_near (A B : List mT) (t u : Nat) : Bool := m_abv A u t || m_abv A t u || m_abv B u t || m_abv B t u
/-- u is a goal for the member m of t -/
def m_gp (A B : List mT) (T : Nat → Bool) (t K : Nat) (m : mM) (u : Nat) : Bool := m_near A B t u && (match m_km (m_ty1 B u) K with
  | none => false
  | some o => !T (128 * u + K) && m_like m o && (m_km (m_ty1 A u) K).isNone)
def m_goal (A B : List mT) (T : Nat → Bool) (t K : Nat) : Option Nat := match m_km (m_ty1 A t) K with
  | none => none
  | some m => if (m_km (m_ty1 B t) K).isSome then none else sf (m_gp A B T t K m) 16 0
abbrev mS : Type := (Nat → Bool) × (Nat → Option Nat)
def m_stp (A B : List mT) (s : mS) (t K : Nat) : mS := match m_goal A B s.1 t K with
  | none => s
  | some u => (fun z => if z = 128 * u + K then true else s.1 z, fun z => if z = 128 * t + K then some u else s.2 z)
def m_mvk (A B : List mT) (s : mS) (t : Nat) : Nat → mS
  | 0 => s
  | K + 1 => m_stp A B (m_mvk A B s t K) t K
def m_mvt (A B : List mT) : Nat → mS
  | 0 => (fun _ => false, fun _ => none)
  | t + 1 => m_mvk A B (m_mvt A B t) t 128
theorem sf_first {p : Nat → Bool} {n u : Nat} (hu : u < n) (h1 : p u = true) (h2 : ∀ v, v < u → p v = false) : sf p n 0 = some u := by
  cases h : sf p n 0 with
  | none =>
    have := sf_none.mp h u (Nat.zero_le _) (by omega)
    rw [h1] at this; cases this
  | some j =>
    obtain ⟨-, -, h3, h4⟩ := sf_some h
    rcases Nat.lt_trichotomy j u with h5 | h5 | h5
    · rw [h2 j h5] at h3; cases h3
    · rw [h5]
    · rw [h4 u (Nat.zero_le _) h5] at h1; cases h1
theorem goal_0 {A B : List mT} {T : Nat → Bool} {t K : Nat} (h : m_km (m_ty1 A t) K = none) : m_goal A B T t K = none := by unfold m_goal; rw [h]
theorem goal_1 {A B : List mT} {T : Nat → Bool} {t K : Nat} {m o : mM} (h : m_km (m_ty1 A t) K = some m) (h2 : m_km (m_ty1 B t) K = some o) : m_goal A B T t K = none := by unfold m_goal; rw [h, h2]; rfl
theorem goal_2 {A B : List mT} {T : Nat → Bool} {t K : Nat} {m : mM} (h : m_km (m_ty1 A t) K = some m) (h2 : m_km (m_ty1 B t) K = none) : m_goal A B T t K = sf (m_gp A B T t K m) 16 0 := by unfold m_goal; rw [h, h2]; rfl
theorem stp_n {A B : List mT} {s : mS} {t K : Nat} (h : m_goal A B s.1 t K = none) : m_stp A B s t K = s := by unfold m_stp; rw [h]
theorem stp_s {A B : List mT} {s : mS} {t K u : Nat} (h : m_goal A B s.1 t K = some u) : m_stp A B s t K = (fun z => if z = 128 * u + K then true else s.1 z, fun z => if z = 128 * t + K then some u else s.2 z) := by unfold m_stp; rw [h]
theorem mvk_no {A B : List mT} {s : mS} {t : Nat} (h : m_ty1 A t = none) : ∀ K, m_mvk A B s t K = s
  | 0 => rfl
  | K + 1 => by rw [m_mvk, mvk_no h K]; exact stp_n (goal_0 (by rw [h]; rfl))
/-- the reference's rows of moves -/
def rf_tk (q : Nat → Nat) (h : jv_H) (b : Nat) (B : List mT) (T : Nat → Bool) : Prop := ∀ (i : Nat) t (j : Nat) m, B[i]? = some t → (mt_m t)[j]? = some m → jv_I h (q 40) (6 * (10 * b + i) + j) = jv_bI (T (128 * mt_n t + kk m))
def rf_wh (q : Nat → Nat) (h : jv_H) (a : Nat) (A : List mT) (V : Nat → Option Nat) : Prop := ∀ (i : Nat) t (j : Nat) m, A[i]? = some t → (mt_m t)[j]? = some m → jv_I h (q 41) (6 * (10 * a + i) + j) = jv_oN (V (128 * mt_n t + kk m))
/-- one difference: number, type, key, goal -/
abbrev mR : Type := Nat × Nat × Option Nat × Option Nat
def m_col (r : mR) : Nat → Int32
  | 0 => nI r.1
  | 1 => nI r.2.1
  | 2 => jv_oN (r.2.2.1.map (fun K => K % 64 / 4))
  | 3 => jv_oN (r.2.2.1.map (fun K => K % 4))
  | 4 => jv_oN r.2.2.2
  | _ => nI ((r.2.2.1.map (fun K => K / 64)).getD 0)
def rf_D (q : Nat → Nat) (h : jv_H) (L : List mR) : Prop := ∀ (i : Nat) r, L[i]? = some r → ∀ c, c < 6 → jv_I h (q (34 + c)) i = m_col r c
def m_mk (l : List Nat) : Nat → Nat
  | 0 => 0
  | n + 1 => m_mk l n ||| ((l[n]?).map (fun v => 2 ^ v)).getD 0
theorem m_mk_lt {l : List Nat} (h : ∀ v ∈ l, v < 16) : ∀ n, m_mk l n < 2 ^ 16
  | 0 => by rw [m_mk]; decide
  | n + 1 => by
    rw [m_mk]
    refine Nat.or_lt_two_pow (m_mk_lt h n) ?_
    cases hn : l[n]? with
    | none => decide
    | some v => exact Nat.pow_lt_pow_right (by decide) (h v (List.mem_of_getElem? hn))
def m_dT (t : Nat) (x y : mT) : List mR := (if mt_i x = mt_i y then [] else [(3, t, none, none)]) ++ (if mt_a x = mt_a y then [] else [(4, t, none, none)]) ++ (if mt_k x = mt_k y ∧ mt_p x = mt_p y then [] else [(5, t, none, none)]) ++ (if mt_u x = mt_u y then [] else [(6, t, none, none)]) ++ (if m_mk (mt_f x) (mt_f x).length = m_mk (mt_f y) (mt_f y).length then [] else [(7, t, none, none)])
def m_dB (t K : Nat) (m o : mM) : List mR := (if mm_a m = mm_a o then [] else [(11, t, some K, none)]) ++ (if mm_t m = mm_t o then [] else [(12, t, some K, none)]) ++ (if mm_b m = mm_b o ∧ mm_c m = mm_c o then [] else [(13, t, some K, none)])
def m_dM (s : mS) (t K : Nat) (x y : Option mT) : List mR := match m_km x K, m_km y K with
  | some m, some o => m_dB t K m o
  | some _, none => match s.2 (128 * t + K) with
    | some u => [(10, t, some K, some u)]
    | none => if y.isSome then [(8, t, some K, none)] else []
  | none, some _ => if s.1 (128 * t + K) then [] else [(9, t, some K, none)]
  | none, none => []
def m_dMs (s : mS) (t : Nat) (x y : Option mT) : Nat → List mR
  | 0 => []
  | K + 1 => m_dMs s t x y K ++ m_dM s t K x y
def m_dH (t : Nat) : Option mT → Option mT → List mR
  | none, none => []
  | none, some _ => [(2, t, none, none)]
  | some _, none => [(1, t, none, none)]
  | some x, some y => m_dT t x y
def m_dt (A B : List mT) (s : mS) (t : Nat) : List mR := m_dH t (m_ty1 A t) (m_ty1 B t) ++ (if (m_ty1 A t).isSome then m_dMs s t (m_ty1 A t) (m_ty1 B t) 128 else [])
def m_df (A B : List mT) (s : mS) : Nat → List mR
  | 0 => []
  | t + 1 => m_df A B s t ++ m_dt A B s t
/-! how many there can be -/
theorem dM_le {s : mS} {t K : Nat} {x y : Option mT} : 2 * (m_dM s t K x y).length ≤ 3 * ((if (m_km x K).isSome then 1 else 0) + (if (m_km y K).isSome then 1 else 0)) := by
  unfold m_dM
  cases m_km x K with
  | none =>
    cases m_km y K with
    | none => exact Nat.zero_le _
    | some o => dsimp only; split <;> simp
  | some m =>
    cases m_km y K with
    | none =>
      dsimp only
      cases s.2 (128 * t + K) with
      | none => dsimp only; split <;> simp
      | some u => simp
    | some o =>
      dsimp only
      unfold m_dB
      rw [List.length_append, List.length_append]
      split <;> split <;> split <;> simp
theorem dMs_le {s : mS} {t : Nat} {x y : Option mT} : ∀ {K : Nat}, 2 * (m_dMs s t x y K).length ≤ 3 * (fb_ct (fun k => (m_km x k).isSome) K + fb_ct (fun k => (m_km y k).isSome) K)
  | 0 => Nat.zero_le _
  | K + 1 => by
    have h1 := dMs_le (s := s) (t := t) (x := x) (y := y) (K := K)
    have h2 := dM_le (s := s) (t := t) (x := x) (y := y) (K := K)
    rw [m_dMs, List.length_append, fb_ct_succ, fb_ct_succ]
    omega
/-- so many numbers below n have an image below m, each another -/
theorem fb_inj {m : Nat} (f : Nat → Option Nat) (hm : ∀ k i, f k = some i → i < m) (hi : ∀ k k' i, f k = some i → f k' = some i → k = k') (n : Nat) : fb_ct (fun k => (f k).isSome) n ≤ m := by
  refine fb_holes m (fb_ct (fun k => (f k).isSome) n) (fun c => ((sf (fun k => (f k).isSome && decide (fb_ct (fun k => (f k).isSome) k = c)) n 0).bind f).getD 0) ?_ ?_
  · intro c hc
    obtain ⟨i, h1, h2, h3⟩ := fb_ct_kth hc
    have e : sf (fun k => (f k).isSome && decide (fb_ct (fun k => (f k).isSome) k = c)) n 0 = some i := by
      refine sf_first h1 (by rw [h2, h3]; simp) (fun v hv => ?_)
      cases hz : ((f v).isSome && decide (fb_ct (fun k => (f k).isSome) v = c)) with
      | false => rfl
      | true =>
        rw [Bool.and_eq_true, decide_eq_true_eq] at hz
        have := fb_ct_kth_one (p := fun k => (f k).isSome) hz.1 h2 (hz.2.trans h3.symm)
        omega
    rw [e]
    obtain ⟨j, hj⟩ := Option.isSome_iff_exists.mp h2
    show ((f i)).getD 0 < m
    rw [hj]
    exact hm i j hj
  · intro c c' hcc hc' e
    obtain ⟨i, h1, h2, h3⟩ := fb_ct_kth (p := fun k => (f k).isSome) (n := n) (k := c) (by omega)
    obtain ⟨i', h1', h2', h3'⟩ := fb_ct_kth hc'
    have key : ∀ c i, i < n → (f i).isSome = true → fb_ct (fun k => (f k).isSome) i = c → sf (fun k => (f k).isSome && decide (fb_ct (fun k => (f k).isSome) k = c)) n 0 = some i := by
      intro c i h1 h2 h3
      refine sf_first h1 (by rw [h2, h3]; simp) (fun v hv => ?_)
      cases hz : ((f v).isSome && decide (fb_ct (fun k => (f k).isSome) v = c)) with
      | false => rfl
      | true =>
        rw [Bool.and_eq_true, decide_eq_true_eq] at hz
        have := fb_ct_kth_one (p := fun k => (f k).isSome) hz.1 h2 (hz.2.trans h3.symm)
        omega
    have e : ((sf (fun k => (f k).isSome && decide (fb_ct (fun k => (f k).isSome) k = c)) n 0).bind f).getD 0 = ((sf (fun k => (f k).isSome && decide (fb_ct (fun k => (f k).isSome) k = c')) n 0).bind f).getD 0 := e
    rw [key c i h1 h2 h3, key c' i' h1' h2' h3'] at e
    obtain ⟨j, hj⟩ := Option.isSome_iff_exists.mp h2
    obtain ⟨j', hj'⟩ := Option.isSome_iff_exists.mp h2'
    have e : (f i).getD 0 = (f i').getD 0 := e
    rw [hj, hj'] at e
    have e : j = j' := e
    subst e
    have := hi i i' j hj hj'
    subst this
    omega
theorem km_le {t : mT} (ho : mt_ok t) : ∀ {n : Nat}, n ≤ 128 → fb_ct (fun k => (m_km (some t) k).isSome) n ≤ 6 := by
  intro n hn
  have h1 : fb_ct (fun k => (m_km (some t) k).isSome) n = fb_ct (fun k => ((if k < 128 then m_kj t k else none)).isSome) n := fb_ct_cong (fun k hk => by
    rw [if_pos (by omega)]
    cases h : m_kj t k with
    | none => rw [km_n h]; rfl
    | some j =>
      obtain ⟨m, hm, -⟩ := kj_some ho (by omega) h
      rw [km_s h hm]; rfl)
  rw [h1]
  refine Nat.le_trans (fb_inj (m := (mt_m t).length) (fun k => if k < 128 then m_kj t k else none) ?_ ?_ n) ho.2.2.2.2.2.1
  · intro k i h
    by_cases hk : k < 128
    · have h : (if k < 128 then m_kj t k else none) = some i := h
      rw [if_pos hk] at h
      obtain ⟨m, hm, -⟩ := kj_some ho hk h
      exact jv_ltGet hm
    · have h : (if k < 128 then m_kj t k else none) = some i := h
      rw [if_neg hk] at h; cases h
  · intro k k' i h h'
    have h : (if k < 128 then m_kj t k else none) = some i := h
    have h' : (if k' < 128 then m_kj t k' else none) = some i := h'
    by_cases hk : k < 128
    · by_cases hk' : k' < 128
      · rw [if_pos hk] at h
        rw [if_pos hk'] at h'
        obtain ⟨m, hm, e⟩ := kj_some ho hk h
        obtain ⟨m', hm', e'⟩ := kj_some ho hk' h'
        cases hm.symm.trans hm'
        omega
      · rw [if_neg hk'] at h'; cases h'
    · rw [if_neg hk] at h; cases h
theorem km_le0 {o : Option mT} (ho : ∀ t, o = some t → mt_ok t) {n : Nat} (hn : n ≤ 128) : fb_ct (fun k => (m_km o k).isSome) n ≤ 6 := by
  cases o with
  | none =>
    have := fb_ct_zero (p := fun k => (m_km none k).isSome) (n := n) |>.mpr (fun k _ => rfl)
    omega
  | some t => exact km_le (ho t rfl) hn
theorem dMs_18 {s : mS} {t : Nat} {x y : Option mT} (hx : ∀ z, x = some z → mt_ok z) (hy : ∀ z, y = some z → mt_ok z) {K : Nat} (hK : K ≤ 128) : (m_dMs s t x y K).length ≤ 18 := by
  have h1 := dMs_le (s := s) (t := t) (x := x) (y := y) (K := K)
  have h2 := km_le0 hx hK
  have h3 := km_le0 hy hK
  omega
theorem dH_5 {t : Nat} {x y : Option mT} : (m_dH t x y).length ≤ 5 := by
  cases x with
  | none => cases y <;> simp [m_dH]
  | some x =>
    cases y with
    | none => simp [m_dH]
    | some y =>
      show (m_dT t x y).length ≤ 5
      unfold m_dT
      simp only [List.length_append]
      split <;> split <;> split <;> split <;> split <;> simp
theorem dt_23 {A B : List mT} {s : mS} {t : Nat} (hA : ∀ t ∈ A, mt_ok t) (hB : ∀ t ∈ B, mt_ok t) : (m_dt A B s t).length ≤ 23 := by
  have hx : ∀ (l : List mT), (∀ t ∈ l, mt_ok t) → ∀ z, m_ty1 l t = some z → mt_ok z := fun l hl z hz => by
    unfold m_ty1 at hz
    cases h : m_at l (nI t) with
    | none => rw [h] at hz; cases hz
    | some i => rw [h] at hz; exact hl z (List.mem_of_getElem? hz)
  unfold m_dt
  rw [List.length_append]
  have h1 := dH_5 (t := t) (x := m_ty1 A t) (y := m_ty1 B t)
  have h2 := dMs_18 (s := s) (t := t) (hx A hA) (hx B hB) (K := 128) (by omega)
  split
  · omega
  · simp; omega
theorem df_23 {A B : List mT} {s : mS} (hA : ∀ t ∈ A, mt_ok t) (hB : ∀ t ∈ B, mt_ok t) : ∀ n, (m_df A B s n).length ≤ 23 * n
  | 0 => Nat.zero_le _
  | n + 1 => by
    have h1 := df_23 (s := s) hA hB n
    have h2 := dt_23 (s := s) (t := n) hA hB
    rw [m_df, List.length_append]
    omega

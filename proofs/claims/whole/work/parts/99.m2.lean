/-! meetings: the class's against the reference's -/
theorem at_ty {ts : List mT} (hs : m_so ts) {n m : Int32} {k j : Nat} (h1 : m_at ts n = some k) (h2 : m_at ts m = some j) : k = j ↔ n = m := by
  obtain ⟨t, e1, e2⟩ := m_at_get h1
  obtain ⟨t', e3, e4⟩ := m_at_get h2
  constructor
  · intro e
    subst e
    cases e1.symm.trans e3
    rw [← e2, ← e4]
  · intro e
    subst e
    exact Option.some.inj (h1.symm.trans h2)
theorem ha_isA {ts : List mT} (hs : m_so ts) (u l : Int32) : c_ha ts (m_Us ts) u l = m_isA ts u l := by
  have at16 : ∀ {v : Int32} {k : Nat}, m_at ts v = some k → ∃ t, ts[k]? = some t ∧ mt_n t < 16 ∧ v = nI (mt_n t) := fun h => by
    obtain ⟨t, e1, e2⟩ := m_at_get h
    exact ⟨t, e1, hs.n16 t (List.mem_of_getElem? e1), e2.symm⟩
  unfold c_ha
  cases hl : m_at ts l with
  | none =>
    dsimp only
    unfold m_isA
    cases h1 : m_16 u with
    | none => rfl
    | some a =>
      cases h2 : m_16 l with
      | none => rfl
      | some b =>
        dsimp only
        cases h3 : m_abv ts a b with
        | false => rfl
        | true =>
          obtain ⟨v, hv, -⟩ := m_rch_s.mp (show m_rch ts (15 + 1) b a = true from h3)
          obtain ⟨i, t, e1, e2, -⟩ := m_up_to hv
          have hb16 := hs.n16 t (List.mem_of_getElem? e1)
          have hl2 : l = nI b := by
            unfold m_16 at h2
            split at h2
            · cases h2
            · rename_i hn
              obtain ⟨k, -, e3, e4⟩ := m_16_s (a := l) (fun q => hn (Or.inl q)) (fun q => hn (Or.inr q))
              rw [e3]
              have : m_16 l = some b := by unfold m_16; rw [if_neg hn]; exact h2
              rw [this] at e4
              cases e4; rfl
          rw [hl2, ← e2, at_nm hs.1 e1] at hl
          cases hl
  | some k =>
    dsimp only
    obtain ⟨t, e1, e2, e3⟩ := at16 hl
    cases hu : m_at ts u with
    | none =>
      dsimp only
      rw [e3]
      unfold m_isA
      rw [m_16_nI e2]
      cases h1 : m_16 u with
      | none => rfl
      | some a =>
        dsimp only
        cases h3 : m_abv ts a (mt_n t) with
        | false => rfl
        | true =>
          have hU := (us_iff hs.1 e1).mpr h3
          obtain ⟨i, t', e4, e5⟩ := (cl_G hs.1 e1).1.2.1.2 a hU
          have hu2 : u = nI a := by
            unfold m_16 at h1
            split at h1
            · cases h1
            · rename_i hn
              obtain ⟨k', -, e6, e7⟩ := m_16_s (a := u) (fun q => hn (Or.inl q)) (fun q => hn (Or.inr q))
              rw [e6]
              have : m_16 u = some a := by unfold m_16; rw [if_neg hn]; exact h1
              rw [this] at e7
              cases e7; rfl
          rw [hu2, ← e5, at_nm hs.1 e4] at hu
          cases hu
    | some j =>
      dsimp only
      obtain ⟨t', e4, e5, e6⟩ := at16 hu
      rw [e4, e6, e3, m_isA_nI e5 e2]
      show decide (mt_n t' ∈ m_Us ts k) = _
      cases h3 : m_abv ts (mt_n t') (mt_n t) with
      | true => exact decide_eq_true ((Us_iff hs.1 e1).mpr h3)
      | false => exact decide_eq_false (fun q => by rw [(Us_iff hs.1 e1).mp q] at h3; cases h3)
theorem ha_abv {ts : List mT} (hs : m_so ts) : ∀ u l, u < 16 → l < 16 → c_ha ts (m_Us ts) (nI u) (nI l) = m_abv ts u l := fun u l hu hl => by rw [ha_isA hs, m_isA_nI hu hl]
theorem mr_mt {ts : List mT} (hs : m_so ts) {pk : Nat} {su : Option Nat} (hsu : ∀ u, su = some u → u < 16) {k : Nat} {td : mT} {md : mM} (hd : ts[k]? = some td) (om : mm_ok md) : c_mt ts (m_Us ts) pk su td md = m_mr ts pk su td md := by
  unfold c_mt m_mr
  by_cases h3 : mm_a md = 3
  · rw [if_pos (Or.inl h3), if_pos h3]; exact decide_eq_true h3
  · rw [if_neg h3]
    by_cases h0 : mm_a md = 0
    · rw [if_pos (Or.inr h0), if_pos h0]; exact decide_eq_false h3
    · rw [if_neg (fun q => q.elim h3 h0), if_neg h0]
      by_cases hp : mt_k td = pk
      · rw [if_pos hp, if_pos hp]
      · rw [if_neg hp, if_neg hp]
        by_cases h1 : mm_a md = 1
        · rw [if_neg (by omega), if_pos h1]
        · rw [if_pos (show mm_a md = 2 by have := om.2.2.1; omega), if_neg h1]
          cases su with
          | none => rw [show jv_oN none = -1 from rfl, at_m1 hs.n16]
          | some u =>
            rw [show jv_oN (some u) = nI u from rfl]
            dsimp only
            cases hu : m_at ts (nI u) with
            | none => rfl
            | some j =>
              obtain ⟨t, e1, e2⟩ := m_at_get hu
              have b1 := hs.n16 t (List.mem_of_getElem? e1)
              have b2 := hsu u rfl
              have b3 := hs.n16 td (List.mem_of_getElem? hd)
              have e3 : mt_n t = u := (nI_eq (by omega) (by omega)).mp e2
              dsimp only
              rw [e1, m_isA_nI b3 b2]
              show (decide (mt_n t = mt_n td) || decide (mt_n td ∈ m_Us ts j)) = (true && _)
              rw [Bool.true_and, e3]
              congr 1
              cases h5 : m_abv ts (mt_n td) u with
              | true => exact decide_eq_true ((Us_iff hs.1 e1).mpr (by rw [e3]; exact h5))
              | false => exact decide_eq_false (fun q => by rw [(e3 ▸ (Us_iff hs.1 e1).mp q : m_abv ts (mt_n td) u = true)] at h5; cases h5)
/-- the holder, with its member -/
theorem ho_ff {ts : List mT} (hs : m_so ts) {kd : Nat} (hk : m_mt kd = false) {ty n s : Int32} {k : Nat} (h : m_at ts ty = some k) : c_ho ts (m_Us ts) kd ty (ky n s) = (m_ff ts 11 k n s).map Prod.fst := by
  obtain ⟨t, ht, -⟩ := m_at_get h
  unfold c_ho
  rw [h, hk]
  exact fd_ff hs ht
theorem ho_fm {ts : List mT} (hs : m_so ts) {kd : Nat} (hk : m_mt kd = true) {ty n s : Int32} {k : Nat} (h : m_at ts ty = some k) : c_ho ts (m_Us ts) kd ty (ky n s) = (m_fm ts 11 k n s).map Prod.fst := by
  obtain ⟨t, ht, -⟩ := m_at_get h
  unfold c_ho
  rw [h, hk]
  exact fd_fm hs ht
theorem ho_no {ts : List mT} {Us : Nat → List Nat} {kd : Nat} {ty : Int32} {ko : Option Nat} (h : m_at ts ty = none) : c_ho ts Us kd ty ko = none := by unfold c_ho; rw [h]; rfl
/-- what is found: the pair -/
def m_fp (ts : List mT) (kd k : Nat) (n s : Int32) : Option (Nat × Nat) := if m_mt kd then m_fm ts 11 k n s else m_ff ts 11 k n s
theorem ho_fp {ts : List mT} (hs : m_so ts) {kd : Nat} {ty n s : Int32} {k : Nat} (h : m_at ts ty = some k) : c_ho ts (m_Us ts) kd ty (ky n s) = (m_fp ts kd k n s).map Prod.fst := by
  unfold m_fp
  cases hk : m_mt kd with
  | true => exact ho_fm hs hk h
  | false => exact ho_ff hs hk h
theorem fp_own {ts : List mT} (hs : m_so ts) {kd k : Nat} {n s : Int32} {p : Nat × Nat} (h : m_fp ts kd k n s = some p) : ∃ (td : mT) (md : mM), ts[p.1]? = some td ∧ m_oc td (m_mt kd) (ky n s) = some p.2 ∧ (mt_m td)[p.2]? = some md ∧ m_om td (m_mt kd) (ky n s) = some md ∧ mm_ok md ∧ mm_w md = m_mt kd := by
  unfold m_fp at h
  have fin : ∀ td, ts[p.1]? = some td → m_oc td (m_mt kd) (ky n s) = some p.2 → ∃ (td : mT) (md : mM), ts[p.1]? = some td ∧ m_oc td (m_mt kd) (ky n s) = some p.2 ∧ (mt_m td)[p.2]? = some md ∧ m_om td (m_mt kd) (ky n s) = some md ∧ mm_ok md ∧ mm_w md = m_mt kd := fun td h1 h2 => by
    obtain ⟨md, h3, h4, -⟩ := oc_some h2
    exact ⟨td, md, h1, h2, h3, by unfold m_om; rw [h2]; exact h3, (hs.ok h1).2.2.2.2.2.2 md (List.mem_of_getElem? h3), h4⟩
  cases hk : m_mt kd with
  | true =>
    rw [hk] at h fin
    obtain ⟨td, h1, h2⟩ := fm_own h
    exact fin td h1 (by rw [← own_1 (hs.ok h1)]; exact h2)
  | false =>
    rw [hk] at h fin
    obtain ⟨td, h1, h2⟩ := ffx_own h
    exact fin td h1 (by rw [← own_0 (hs.ok h1)]; exact h2)
theorem co_ci {ts : List mT} (hs : m_so ts) {ty n s : Int32} : c_ci ts (c_ho ts (m_Us ts) 1 ty (ky n s)) (ky n s) = (match m_co ts 1 ty n s with
    | none => -1
    | some p => m_bd ts p) ∧ ∀ p, m_co ts 1 ty n s = some p → ¬ m_bd ts p = -1 := by
  unfold m_co c_ci c_ob
  rw [if_pos rfl]
  cases h : m_at ts ty with
  | none =>
    rw [ho_no h]
    exact ⟨rfl, fun p hp => by cases hp⟩
  | some k =>
    rw [ho_fp hs h]
    dsimp only
    have e1 : m_fp ts 1 k n s = m_ff ts 11 k n s := rfl
    rw [e1]
    cases hf : m_ff ts 11 k n s with
    | none => exact ⟨rfl, fun p hp => by cases hp⟩
    | some p =>
      obtain ⟨td, md, h1, h2, h3, h4, h5, h6⟩ := fp_own hs (e1.trans hf)
      have h4 : m_om td false (ky n s) = some md := h4
      have h6 : mm_w md = false := h6
      dsimp only
      have e2 : m_isC ts p = mm_c md := by unfold m_isC; rw [h1]; dsimp only; rw [h3]
      have e3 : m_bd ts p = mm_b md := by unfold m_bd; rw [h1]; dsimp only; rw [h3]
      rw [show (Option.map Prod.fst (some p)).bind (fun k => (ts[k]?).bind (fun t => m_om t false (ky n s))) = some md from by show (ts[p.1]?).bind _ = _; rw [h1]; exact h4]
      rw [e2]
      dsimp only
      cases hc : mm_c md with
      | false => exact ⟨rfl, fun p hp => by cases hp⟩
      | true =>
        refine ⟨e3.symm, fun p' hp' => ?_⟩
        cases hp'
        rw [e3]
        rcases h5.2.2.2 with ⟨-, q⟩ | ⟨j, hj, q⟩
        · rw [h6] at q; cases q
        · rw [q]; exact jv_nI_m1 (by omega)
theorem co_cv {ts : List mT} (hs : m_so ts) {kd : Nat} {ty n s : Int32} : c_cv ts (m_Us ts) kd ty (ky n s) = (match m_co ts kd ty n s with
    | none => -1
    | some p => m_bd ts p) ∧ ∀ p, m_co ts kd ty n s = some p → ¬ m_bd ts p = -1 := by
  unfold c_cv
  by_cases hk : kd = 1
  · subst hk
    rw [if_pos rfl]
    exact co_ci hs
  · rw [if_neg hk]
    have : m_co ts kd ty n s = none := by unfold m_co; rw [if_neg hk]
    rw [this]
    exact ⟨rfl, fun p hp => by cases hp⟩
theorem nm_some {ts : List mT} {k : Nat} {t : mT} (h : ts[k]? = some t) : c_nm ts (some k) = nI (mt_n t) := by unfold c_nm; rw [Option.bind_some, h]; rfl
theorem cn_f {ts : List mT} {rc : Int32} {r : Nat} {tr : mT} (h : m_at ts rc = some r) (ht : ts[r]? = some tr) (hi : mt_i tr = false) : m_cn ts rc false = some r := by
  unfold m_cn
  rw [h]
  dsimp only
  rw [ht, if_pos (by simp [hi])]
theorem cn_t {ts : List mT} {rc : Int32} {r : Nat} {tr : mT} (h : m_at ts rc = some r) (ht : ts[r]? = some tr) (hi : mt_i tr = true) : m_cn ts rc false = none := by
  unfold m_cn
  rw [h]
  dsimp only
  rw [ht, if_neg (by simp [hi])]
theorem cn_n {ts : List mT} {rc : Int32} (h : m_at ts rc = none) : m_cn ts rc false = none := by
  unfold m_cn
  rw [h]
theorem rn_nn {ts : List mT} {Us : Nat → List Nat} {ko : Option Nat} {rc : Int32} : c_rn ts Us none ko rc = none := by
  unfold c_rn
  cases m_cn ts rc false <;> rfl
theorem rn_cn {ts : List mT} {Us : Nat → List Nat} {ho ko : Option Nat} {rc : Int32} (h : m_cn ts rc false = none) : c_rn ts Us ho ko rc = none := by
  unfold c_rn
  rw [h]
  cases ho <;> rfl
theorem orn_ow {ts : List mT} (hs : m_so ts) {kd : Nat} (hk : m_mt kd = true) {ty n s rc : Int32} : c_nm ts (c_rn ts (m_Us ts) (c_ho ts (m_Us ts) kd ty (ky n s)) (ky n s) rc) = jv_oN (m_orn ts ty n s rc) := by
  unfold m_orn
  cases h : m_at ts ty with
  | none => rw [ho_no h, rn_nn]; rfl
  | some k =>
    cases hr : m_at ts rc with
    | none => rw [rn_cn (cn_n hr)]; rfl
    | some kr =>
      obtain ⟨tr, htr, -⟩ := m_at_get hr
      dsimp only
      rw [htr]
      dsimp only
      cases hi : mt_i tr with
      | true => rw [rn_cn (cn_t hr htr hi)]; rfl
      | false =>
        rw [if_neg (by simp), ho_fp hs h]
        have e1 : m_fp ts kd k n s = m_fm ts 11 k n s := by unfold m_fp; rw [if_pos hk]
        rw [e1]
        cases hf : m_fm ts 11 k n s with
        | none =>
          show c_nm ts (c_rn ts (m_Us ts) none (ky n s) rc) = _
          rw [rn_nn]; rfl
        | some p =>
          obtain ⟨td, md, h1, h2, h3, h4, h5, h6⟩ := fp_own hs (e1.trans hf)
          rw [hk] at h2
          dsimp only
          rw [h1]
          dsimp only
          rw [h3]
          dsimp only
          have e2 : c_rn ts (m_Us ts) (Option.map Prod.fst (some p)) (ky n s) rc = (m_sl ts 11 td md p.1 p.2 kr).map Prod.fst := by
            unfold c_rn
            rw [cn_f hr htr hi]
            exact sl_sl hs h1 h2 h3 htr
          rw [e2]
          cases hl : m_sl ts 11 td md p.1 p.2 kr with
          | none => rfl
          | some o =>
            obtain ⟨to, h7, -⟩ := sl_own hs h1 h2 h3 hl
            show c_nm ts (some o.1) = _
            rw [nm_some h7]
            dsimp only
            rw [h7]
            rfl
theorem b_neg {m : mM} (ho : mm_ok m) (hw : mm_w m = true) : m_abs m = true ↔ ¬ 0 ≤ mm_b m := by
  rw [abs_neg ho hw, decide_eq_true_iff]
  rw [Int32.lt_iff_toInt_lt, Int32.le_iff_toInt_le]
  omega

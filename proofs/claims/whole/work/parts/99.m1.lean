/-! own members by key and by name and sort; nearest, candidates, selection: the class's ways against the reference's -/
theorem rr_ltN {k n : Nat} (hk : k < n) (hn : n < 2 ^ 31) : rr_lt (nI k) n = true := by
  unfold rr_lt
  have h0 : (0 : Int32).toInt = 0 := by decide
  have h1 : ¬ nI k < 0 := by rw [Int32.lt_iff_toInt_lt, nI_toInt (by omega)]; omega
  have h2 : ¬ nI n ≤ nI k := by rw [Int32.le_iff_toInt_le, nI_toInt (by omega), nI_toInt (by omega)]; omega
  rw [decide_eq_false h1, decide_eq_false h2]; rfl
theorem ix1_N {k n : Nat} (hk : k < n) (hn : n < 2 ^ 31) : m_ix1 n (nI k) = some k := by
  obtain ⟨k', h1, h2, h3⟩ := rr_lt_t hn (rr_ltN hk hn)
  rw [h3, (nI_eq (by omega) (by omega)).mp h2]
theorem ky_iff {n s : Int32} {a b : Nat} (ha : a < 16) (hb : b < 4) : some (4 * a + b) = ky n s ↔ nI a = n ∧ nI b = s := by
  constructor
  · intro h
    unfold ky at h
    cases h1 : rr_lt n 16 with
    | false => rw [rr_lt_f h1] at h; cases h
    | true =>
      obtain ⟨i, hi, ei, e⟩ := rr_lt_t (by decide) h1
      cases h2 : rr_lt s 4 with
      | false => rw [rr_lt_f h2, e] at h; cases h
      | true =>
        obtain ⟨j, hj, ej, e2⟩ := rr_lt_t (by decide) h2
        rw [e, e2] at h
        have h := Option.some.inj h
        rw [ei, ej, show a = i by omega, show b = j by omega]
        exact ⟨rfl, rfl⟩
  · rintro ⟨e1, e2⟩
    unfold ky
    rw [← e1, ← e2, ix1_N ha (by decide), ix1_N hb (by decide)]
theorem own_oc {t : mT} (ho : mt_ok t) (w : Bool) (n s : Int32) : m_own t (jv_bI w) n s = m_oc t w (ky n s) := by
  unfold m_own m_oc
  congr 1
  funext j
  cases hj : (mt_m t)[j]? with
  | none => rfl
  | some m =>
    have hm := ho.2.2.2.2.2.2 m (List.mem_of_getElem? hj)
    show m_ownT _ _ _ m = decide (mm_w m = w ∧ some (4 * mm_n m + mm_s m) = ky n s)
    unfold m_ownT
    rw [decide_eq_decide, ky_iff hm.1 hm.2.1]
    have hw : jv_bI (mm_w m) = jv_bI w ↔ mm_w m = w := by cases mm_w m <;> cases w <;> decide
    rw [hw]
theorem own_0 {t : mT} (ho : mt_ok t) (n s : Int32) : m_own t (nI 0) n s = m_oc t false (ky n s) := own_oc ho false n s
theorem own_1 {t : mT} (ho : mt_ok t) (n s : Int32) : m_own t (nI 1) n s = m_oc t true (ky n s) := own_oc ho true n s
theorem oc_no {t : mT} {w : Bool} : m_oc t w none = none := by
  cases h : m_oc t w none with
  | none => rfl
  | some j => obtain ⟨m, -, -, h3⟩ := oc_some h; cases h3
theorem has_oc {t : mT} (ho : mt_ok t) (hu : m_uk t) {w : Bool} {ko : Option Nat} (hK : ∀ K, ko = some K → K < 64) : m_has t w ko = (m_oc t w ko).isSome := by
  cases ko with
  | none => rw [oc_no]; rfl
  | some K => rw [has_kj ho hu (hK K rfl), oc_kj ho (hK K rfl)]
theorem ky_64 (n s : Int32) : ∀ K, ky n s = some K → K < 64 := fun _ h => ky_lt h
/-- what is known of a sealed edition's types -/
def m_so (ts : List mT) : Prop := m_sx ts ∧ (∀ t ∈ ts, mt_ok t ∧ m_uk t ∧ (mt_i t = true → mt_a t = true)) ∧ ∀ t ∈ ts, m_abv ts (mt_n t) (mt_n t) = false
theorem m_so.n16 {ts : List mT} (hs : m_so ts) : ∀ t ∈ ts, mt_n t < 16 := fun t h => (hs.1.1 t h).1
theorem m_so.ok {ts : List mT} (hs : m_so ts) {k : Nat} {t : mT} (ht : ts[k]? = some t) : mt_ok t := (hs.2.1 t (List.mem_of_getElem? ht)).1
theorem m_so.uk {ts : List mT} (hs : m_so ts) {k : Nat} {t : mT} (ht : ts[k]? = some t) : m_uk t := (hs.2.1 t (List.mem_of_getElem? ht)).2.1
theorem m_so.hg10 {ts : List mT} (hs : m_so ts) : ∀ k, k < ts.length → m_hg ts 10 k := fun k hk => by
  refine m_hg_of hs.1.1 hs.1.2.1 hs.1.2.2.2 hs.2.2 10 k hk ?_
  obtain ⟨t, ht⟩ := jv_getLt hk
  unfold m_ht
  have h1 := fb_ct_lt (p := fun j => (ts[j]?).any (fun s => (ts[k]?).any (fun t => m_abv ts (mt_n s) (mt_n t)))) (q := fun _ => true) (n := ts.length) (k := k) (fun _ _ _ => rfl) hk (by rw [ht]; exact hs.2.2 t (List.mem_of_getElem? ht)) rfl
  have h2 := fb_ct_le (fun _ => true) ts.length
  have h3 := hs.1.2.2.1
  omega
theorem m_so.sok {ts : List mT} (hs : m_so ts) : m_sok ts := m_sok_of hs.1.1 hs.1.2.1 hs.1.2.2.1 hs.1.2.2.2 hs.2.2
/-! fields -/
theorem ffx_own {ts : List mT} {n s : Int32} : ∀ {d k : Nat} {p : Nat × Nat}, m_ff ts d k n s = some p → ∃ t, ts[p.1]? = some t ∧ m_own t (nI 0) n s = some p.2
  | 0, k, p, h => by cases h
  | d + 1, k, p, h => by
    rw [m_ff] at h
    cases ht : ts[k]? with
    | none => rw [ht] at h; cases h
    | some t =>
      rw [ht] at h
      dsimp only at h
      cases ho : m_own t (nI 0) n s with
      | some j =>
        rw [ho] at h
        cases h
        exact ⟨t, ht, ho⟩
      | none =>
        rw [ho] at h
        dsimp only at h
        cases hf : (mt_f t).findSome? (fun v => (m_at ts (nI v)).bind (fun k' => m_ff ts d k' n s)) with
        | some r =>
          rw [hf] at h
          cases h
          obtain ⟨v, -, hv⟩ := List.exists_of_findSome?_eq_some hf
          obtain ⟨k', -, h2⟩ := Option.bind_eq_some_iff.mp hv
          exact ffx_own h2
        | none =>
          rw [hf] at h
          dsimp only at h
          obtain ⟨u, -, hv⟩ := Option.bind_eq_some_iff.mp h
          obtain ⟨k', -, h2⟩ := Option.bind_eq_some_iff.mp hv
          exact ffx_own h2
theorem ff_ffi {ts : List mT} (hs : m_so ts) {n s : Int32} : ∀ d k, (m_ff ts d k n s).map Prod.fst = ffi ts (fun y => m_has y false (ky n s)) d k := by
  intro d
  induction d with
  | zero => intro k; rfl
  | succ d ih =>
    intro k
    rw [m_ff, ffi]
    cases ht : ts[k]? with
    | none => rfl
    | some t =>
      dsimp only
      rw [own_0 (hs.ok ht), has_oc (hs.ok ht) (hs.uk ht) (ky_64 n s)]
      cases ho : m_oc t false (ky n s) with
      | some j => rfl
      | none =>
        rw [if_neg (by simp)]
        have hih : ∀ v, (m_at ts v).bind (fun k' => ffi ts (fun y => m_has y false (ky n s)) d k') = ((m_at ts v).bind (fun k' => m_ff ts d k' n s)).map Prod.fst := fun v => by
          cases m_at ts v with
          | none => rfl
          | some k' => exact (ih k').symm
        unfold m_vs
        rw [List.findSome?_append, List.findSome?_map]
        have e1 : (mt_f t).findSome? ((fun v => (m_at ts v).bind (fun k' => ffi ts (fun y => m_has y false (ky n s)) d k')) ∘ nI) = ((mt_f t).findSome? (fun v => (m_at ts (nI v)).bind (fun k' => m_ff ts d k' n s))).map Prod.fst := by
          rw [fs_map]
          exact fs_cong (fun v _ => hih (nI v))
        rw [e1]
        cases hf : (mt_f t).findSome? (fun v => (m_at ts (nI v)).bind (fun k' => m_ff ts d k' n s)) with
        | some r => rfl
        | none =>
          show ((mt_u t).bind (fun u => (m_at ts (nI u)).bind (fun k' => m_ff ts d k' n s))).map Prod.fst = _
          rw [show Option.map Prod.fst (none : Option (Nat × Nat)) = none from rfl, Option.none_or, List.findSome?_cons, hih]
          cases hu : mt_u t with
          | none =>
            rw [show jv_oN none = -1 from rfl, at_m1 hs.n16]
            rfl
          | some u =>
            rw [show jv_oN (some u) = nI u from rfl, Option.bind_some]
            cases (m_at ts (nI u)).bind (fun k' => m_ff ts d k' n s) <;> rfl
theorem hf_ff {ts : List mT} (hs : m_so ts) {k : Nat} {t : mT} (ht : ts[k]? = some t) {n s : Int32} : c_hf ts (m_Us ts) k (ky n s) = (m_ff ts 11 k n s).map Prod.fst := by
  rw [ff_ffi hs 11 k]
  exact hf_ffi hs.1 hs.sok hs.2.2 ht
/-! methods: the nearest -/
theorem nr_own {ts : List mT} {n s : Int32} : ∀ {d k : Nat} {p : Nat × Nat}, m_nr ts d k n s = some p → ∃ t, ts[p.1]? = some t ∧ m_own t (nI 1) n s = some p.2
  | 0, k, p, h => by cases h
  | d + 1, k, p, h => by
    rw [m_nr] at h
    cases ht : ts[k]? with
    | none => rw [ht] at h; cases h
    | some t =>
      rw [ht] at h
      dsimp only at h
      cases ho : m_own t (nI 1) n s with
      | some j =>
        rw [ho] at h
        cases h
        exact ⟨t, ht, ho⟩
      | none =>
        rw [ho] at h
        dsimp only at h
        obtain ⟨u, -, hv⟩ := Option.bind_eq_some_iff.mp h
        obtain ⟨k', -, h2⟩ := Option.bind_eq_some_iff.mp hv
        exact nr_own h2
theorem nw_nr {ts : List mT} (hs : m_so ts) {n s : Int32} : ∀ d k, m_hg ts d k → k < ts.length → c_nw ts (ky n s) d (some k) = (m_nr ts (d + 1) k n s).map Prod.fst := by
  intro d
  induction d with
  | zero => intro k h; exact h.elim
  | succ d ih =>
    intro k h hk
    obtain ⟨t, ht⟩ := jv_getLt hk
    rw [c_nw, m_nr, ht]
    dsimp only
    rw [own_1 (hs.ok ht), has_oc (hs.ok ht) (hs.uk ht) (ky_64 n s)]
    cases ho : m_oc t true (ky n s) with
    | some j => rfl
    | none =>
      rw [if_neg (by simp)]
      cases hu : mt_u t with
      | none =>
        rw [show jv_oN none = -1 from rfl, at_m1 hs.n16]
        cases d <;> rfl
      | some u =>
        obtain ⟨k', h1, h2⟩ := (h t ht).2 u hu
        show c_nw ts (ky n s) d (m_at ts (nI u)) = ((m_at ts (nI u)).bind (fun k' => m_nr ts (d + 1) k' n s)).map Prod.fst
        rw [h1]
        obtain ⟨t', h3, -⟩ := m_at_get h1
        exact ih k' h2 (jv_ltGet h3)
theorem nw11 {ts : List mT} (hs : m_so ts) {n s : Int32} {k : Nat} (hk : k < ts.length) : c_nw ts (ky n s) 10 (some k) = (m_nr ts 11 k n s).map Prod.fst := nw_nr hs 10 k (hs.hg10 k hk) hk
/-! candidates -/
def c_cnd (ko : Option Nat) (t : mT) : Bool := mt_i t && ((m_oc t true ko).bind (fun i => (mt_m t)[i]?)).any m_hd
theorem cm_bit {ts : List mT} {Us : Nat → List Nat} {ko : Option Nat} {U : List Nat} {x : Nat} : ∀ n, ((c_cm ts Us ko U n).1.testBit x = true ↔ ∃ (i v j : Nat) (t : mT), i < n ∧ U[i]? = some v ∧ m_at ts (nI v) = some j ∧ ts[j]? = some t ∧ c_cnd ko t = true ∧ mt_n t = x) ∧ ((c_cm ts Us ko U n).2.testBit x = true ↔ ∃ (i v j : Nat) (t : mT), i < n ∧ U[i]? = some v ∧ m_at ts (nI v) = some j ∧ ts[j]? = some t ∧ c_cnd ko t = true ∧ x ∈ Us j)
  | 0 => by
    rw [c_cm]
    constructor
    · constructor
      · intro h; rw [Nat.zero_testBit] at h; cases h
      · rintro ⟨i, v, j, t, h, -⟩; omega
    · constructor
      · intro h; rw [Nat.zero_testBit] at h; cases h
      · rintro ⟨i, v, j, t, h, -⟩; omega
  | n + 1 => by
    obtain ⟨ih1, ih2⟩ := cm_bit (ts := ts) (Us := Us) (ko := ko) (U := U) (x := x) n
    have skip : ∀ (P : Nat → Nat → Nat → mT → Prop), (∀ v j t, ¬ P n v j t) → ((∃ (i v j : Nat) (t : mT), i < n ∧ P i v j t) ↔ ∃ (i v j : Nat) (t : mT), i < n + 1 ∧ P i v j t) := fun P hP => by
      constructor
      · rintro ⟨i, v, j, t, h, hp⟩
        exact ⟨i, v, j, t, by omega, hp⟩
      · rintro ⟨i, v, j, t, h, hp⟩
        refine ⟨i, v, j, t, ?_, hp⟩
        by_cases e : i = n
        · subst e; exact absurd hp (hP v j t)
        · omega
    have no : (∀ v j t, ¬ (U[n]? = some v ∧ m_at ts (nI v) = some j ∧ ts[j]? = some t ∧ c_cnd ko t = true)) → ((c_cm ts Us ko U n).1.testBit x = true ↔ ∃ (i v j : Nat) (t : mT), i < n + 1 ∧ U[i]? = some v ∧ m_at ts (nI v) = some j ∧ ts[j]? = some t ∧ c_cnd ko t = true ∧ mt_n t = x) ∧ ((c_cm ts Us ko U n).2.testBit x = true ↔ ∃ (i v j : Nat) (t : mT), i < n + 1 ∧ U[i]? = some v ∧ m_at ts (nI v) = some j ∧ ts[j]? = some t ∧ c_cnd ko t = true ∧ x ∈ Us j) := fun hno =>
      ⟨ih1.trans (skip (fun i v j t => U[i]? = some v ∧ m_at ts (nI v) = some j ∧ ts[j]? = some t ∧ c_cnd ko t = true ∧ mt_n t = x) (fun v j t h => hno v j t ⟨h.1, h.2.1, h.2.2.1, h.2.2.2.1⟩)), ih2.trans (skip (fun i v j t => U[i]? = some v ∧ m_at ts (nI v) = some j ∧ ts[j]? = some t ∧ c_cnd ko t = true ∧ x ∈ Us j) (fun v j t h => hno v j t ⟨h.1, h.2.1, h.2.2.1, h.2.2.2.1⟩))⟩
    rw [c_cm]
    cases hv : U[n]? with
    | none => exact no (fun v j t h => by rw [hv] at h; cases h.1)
    | some v =>
      dsimp only
      cases hm : m_at ts (nI v) with
      | none => exact no (fun v' j t h => by rw [hv] at h; cases h.1; rw [hm] at h; cases h.2.1)
      | some j =>
        dsimp only
        cases ht : ts[j]? with
        | none => exact no (fun v' j' t h => by rw [hv] at h; cases h.1; rw [hm] at h; cases h.2.1; rw [ht] at h; cases h.2.2.1)
        | some t =>
          dsimp only
          by_cases hc : c_cnd ko t = true
          · rw [if_pos (show (mt_i t && ((m_oc t true ko).bind (fun i => (mt_m t)[i]?)).any m_hd) = true from hc)]
            dsimp only
            rw [Nat.testBit_or, Nat.testBit_or, Bool.or_eq_true, Bool.or_eq_true, ih1, ih2, um_bit, Nat.testBit_two_pow]
            constructor
            · constructor
              · rintro (⟨i, v', j', t', h, hp⟩ | h)
                · exact ⟨i, v', j', t', by omega, hp⟩
                · exact ⟨n, v, j, t, by omega, hv, hm, ht, hc, by simpa using h⟩
              · rintro ⟨i, v', j', t', h, h1, h2, h3, h4, h5⟩
                by_cases e : i = n
                · subst e
                  rw [hv] at h1; cases h1
                  rw [hm] at h2; cases h2
                  rw [ht] at h3; cases h3
                  exact Or.inr (by simpa using h5)
                · exact Or.inl ⟨i, v', j', t', by omega, h1, h2, h3, h4, h5⟩
            · constructor
              · rintro (⟨i, v', j', t', h, hp⟩ | h)
                · exact ⟨i, v', j', t', by omega, hp⟩
                · exact ⟨n, v, j, t, by omega, hv, hm, ht, hc, by simpa using h⟩
              · rintro ⟨i, v', j', t', h, h1, h2, h3, h4, h5⟩
                by_cases e : i = n
                · subst e
                  rw [hv] at h1; cases h1
                  rw [hm] at h2; cases h2
                  rw [ht] at h3; cases h3
                  exact Or.inr (by simpa using h5)
                · exact Or.inl ⟨i, v', j', t', by omega, h1, h2, h3, h4, h5⟩
          · rw [if_neg (show ¬ (mt_i t && ((m_oc t true ko).bind (fun i => (mt_m t)[i]?)).any m_hd) = true from hc)]
            exact no (fun v' j' t' h => by
              rw [hv] at h; cases h.1
              rw [hm] at h; cases h.2.1
              rw [ht] at h; cases h.2.2.1
              exact hc h.2.2.2)
theorem c0_iff {ts : List mT} (hs : m_so ts) {n s : Int32} {k k0 : Nat} {t t0 : mT} (ht : ts[k]? = some t) (ht0 : ts[k0]? = some t0) : m_c0 ts (mt_n t0) n s k = true ↔ c_cnd (ky n s) t = true ∧ m_abv ts (mt_n t) (mt_n t0) = true := by
  have b1 := hs.n16 t (List.mem_of_getElem? ht)
  have b2 := hs.n16 t0 (List.mem_of_getElem? ht0)
  unfold m_c0 c_cnd
  rw [ht]
  dsimp only
  rw [m_isA_nI b1 b2, own_1 (hs.ok ht)]
  cases hi : mt_i t with
  | false => simp
  | true =>
    cases hj : m_oc t true (ky n s) with
    | none => simp
    | some j =>
      obtain ⟨m, hm, -, -⟩ := oc_some hj
      simp only [Option.bind_some, hm, Option.any_some, m_hd, Bool.true_and, Bool.and_eq_true]
      constructor
      · rintro ⟨h1, h2⟩; exact ⟨h2, h1⟩
      · rintro ⟨h1, h2⟩; exact ⟨h2, h1⟩
theorem cd_eq {ts : List mT} (hs : m_so ts) {n s : Int32} {k k0 : Nat} {t t0 : mT} (ht : ts[k]? = some t) (ht0 : ts[k0]? = some t0) : (c_cd ts (m_Us ts) k0 (ky n s)).testBit (mt_n t) = m_cd ts (mt_n t0) n s k := by
  have b1 := hs.n16 t (List.mem_of_getElem? ht)
  have key : ∀ P : Nat → mT → Prop, (∃ (i v j : Nat) (t' : mT), i < (m_Us ts k0).length ∧ (m_Us ts k0)[i]? = some v ∧ m_at ts (nI v) = some j ∧ ts[j]? = some t' ∧ c_cnd (ky n s) t' = true ∧ P j t') ↔ ∃ (j : Nat) (t' : mT), ts[j]? = some t' ∧ m_c0 ts (mt_n t0) n s j = true ∧ P j t' := fun P => by
    constructor
    · rintro ⟨i, v, j, t', -, h2, h3, h4, h5, h6⟩
      have hv := (Us_iff hs.1 ht0).mp (List.mem_of_getElem? h2)
      obtain ⟨t2, e1, e2⟩ := m_at_get h3
      cases h4.symm.trans e1
      have b3 := hs.n16 t' (List.mem_of_getElem? h4)
      have b4 := (m_rch_lt hs.1.1 hv).1
      have e3 := (nI_eq (by omega) (by omega)).mp e2
      exact ⟨j, t', h4, (c0_iff hs h4 ht0).mpr ⟨h5, by rw [e3]; exact hv⟩, h6⟩
    · rintro ⟨j, t', h4, h5, h6⟩
      obtain ⟨q1, q2⟩ := (c0_iff hs h4 ht0).mp h5
      obtain ⟨i, hi⟩ := List.getElem?_of_mem ((Us_iff hs.1 ht0).mpr q2)
      exact ⟨i, mt_n t', j, t', jv_ltGet hi, hi, at_nm hs.1 h4, h4, q1, h6⟩
  have h1 : (c_cm ts (m_Us ts) (ky n s) (m_Us ts k0) (m_Us ts k0).length).1.testBit (mt_n t) = m_c0 ts (mt_n t0) n s k := by
    rw [Bool.eq_iff_iff, (cm_bit _).1, key (fun _ t' => mt_n t' = mt_n t)]
    constructor
    · rintro ⟨j, t', e1, e2, e3⟩
      have := hs.1.2.1 j k t' t e1 ht e3
      rw [← this]; exact e2
    · intro h; exact ⟨k, t, ht, h, rfl⟩
  have h2 : (c_cm ts (m_Us ts) (ky n s) (m_Us ts k0) (m_Us ts k0).length).2.testBit (mt_n t) = m_cp ts (mt_n t0) n s k ts.length := by
    rw [Bool.eq_iff_iff, (cm_bit _).2, key (fun j _ => mt_n t ∈ m_Us ts j)]
    unfold m_cp
    rw [List.any_eq_true]
    constructor
    · rintro ⟨j, t', e1, e2, e3⟩
      refine ⟨j, List.mem_range.mpr (jv_ltGet e1), ?_⟩
      rw [e2]
      unfold m_nA
      rw [ht, e1]
      dsimp only
      rw [m_isA_nI b1 (hs.n16 t' (List.mem_of_getElem? e1)), (Us_iff hs.1 e1).mp e3]
      rfl
    · rintro ⟨j, hj, h⟩
      obtain ⟨t', e1⟩ := jv_getLt (List.mem_range.mp hj)
      rw [Bool.and_eq_true] at h
      refine ⟨j, t', e1, h.1, (Us_iff hs.1 e1).mpr ?_⟩
      have h3 := h.2
      unfold m_nA at h3
      rw [ht, e1] at h3
      dsimp only at h3
      rwa [m_isA_nI b1 (hs.n16 t' (List.mem_of_getElem? e1))] at h3
  unfold c_cd m_cd
  rw [nd_bit, h1, h2]
theorem last_cong {p q : Nat → Bool} : ∀ {n : Nat}, (∀ k, k < n → p k = q k) → m_last p n = m_last q n
  | 0, _ => rfl
  | n + 1, h => by rw [m_last, m_last, h n (by omega), last_cong (fun k hk => h k (by omega))]
theorem only_cong {p q : Nat → Bool} {n : Nat} (h : ∀ k, k < n → p k = q k) : m_only p n = m_only q n := by
  unfold m_only
  rw [fb_ct_cong h, last_cong h]
theorem sf_cong {p q : Nat → Bool} : ∀ {n k : Nat}, (∀ j, k ≤ j → j < k + n → p j = q j) → sf p n k = sf q n k
  | 0, _, _ => rfl
  | n + 1, k, h => by rw [sf, sf, h k (by omega) (by omega), sf_cong (n := n) (k := k + 1) (fun j h1 h2 => h j (by omega) (by omega))]
theorem abs_neg {m : mM} (ho : mm_ok m) (hw : mm_w m = true) : m_abs m = decide (mm_b m < 0) := by
  unfold m_abs
  rw [hw, Bool.true_and, decide_eq_decide]
  rcases ho.2.2.2 with ⟨h, -⟩ | ⟨k, hk, h⟩
  · rw [h]; decide
  · rw [h]
    have h0 : (0 : Int32).toInt = 0 := by decide
    constructor
    · intro e; exact absurd e (jv_nI_m1 (by omega))
    · intro e
      rw [Int32.lt_iff_toInt_lt, nI_toInt (by omega)] at e
      omega
theorem op_ob {ts : List mT} (hs : m_so ts) {n s : Int32} {k k0 : Nat} {t0 : mT} (hk : k < ts.length) (ht0 : ts[k0]? = some t0) : c_op ts (c_cd ts (m_Us ts) k0 (ky n s)) (ky n s) k = m_ob ts n s (m_cd ts (mt_n t0) n s) k := by
  obtain ⟨t, ht⟩ := jv_getLt hk
  unfold c_op m_ob
  rw [ht]
  dsimp only
  rw [own_1 (hs.ok ht)]
  show ((c_cd ts (m_Us ts) k0 (ky n s)).testBit (mt_n t) && _) = _
  rw [cd_eq hs ht ht0]
  congr 1
  cases hj : m_oc t true (ky n s) with
  | none => rfl
  | some j =>
    obtain ⟨m, hm, hw, -⟩ := oc_some hj
    rw [Option.bind_some, hm]
    dsimp only
    rw [hm]
    show (!m_abs m) = _
    rw [abs_neg ((hs.ok ht).2.2.2.2.2.2 m (List.mem_of_getElem? hm)) hw]
theorem only_ob {ts : List mT} (hs : m_so ts) {n s : Int32} {k0 : Nat} {t0 : mT} (ht0 : ts[k0]? = some t0) : m_only (c_op ts (c_cd ts (m_Us ts) k0 (ky n s)) (ky n s)) ts.length = m_only (m_ob ts n s (m_cd ts (mt_n t0) n s)) ts.length := only_cong (fun _ hk => op_ob hs hk ht0)
theorem fo_cd {ts : List mT} (hs : m_so ts) {n s : Int32} {k0 : Nat} {t0 : mT} (ht0 : ts[k0]? = some t0) : c_fo ts (c_cd ts (m_Us ts) k0 (ky n s)) = sf (m_cd ts (mt_n t0) n s) ts.length 0 := by
  unfold c_fo
  refine sf_cong (fun j _ hj => ?_)
  obtain ⟨t, ht⟩ := jv_getLt (l := ts) (k := j) (by omega)
  rw [ht]
  exact cd_eq hs ht ht0
theorem only_none {p : Nat → Bool} {n : Nat} (h : ∀ k, k < n → p k = false) : m_only p n = none := by
  unfold m_only
  rw [fb_ct_zero.mpr h]
  rfl
theorem cd0_ob {ts : List mT} {tn : Nat} {n s : Int32} (h : fb_ct (m_cd ts tn n s) ts.length = 0) : m_only (m_ob ts n s (m_cd ts tn n s)) ts.length = none := only_none (fun k hk => by
  unfold m_ob
  rw [fb_ct_zero.mp h k hk]; rfl)
theorem cd0_sf {ts : List mT} {tn : Nat} {n s : Int32} (h : fb_ct (m_cd ts tn n s) ts.length = 0) : sf (m_cd ts tn n s) ts.length 0 = none := sf_none.mpr (fun j _ hj => fb_ct_zero.mp h j (by omega))
theorem rs_fst {ts : List mT} {tn : Nat} {n s : Int32} : (m_rs ts tn n s).map Prod.fst = (m_only (m_ob ts n s (m_cd ts tn n s)) ts.length).or (sf (m_cd ts tn n s) ts.length 0) := by
  unfold m_rs
  by_cases h : fb_ct (m_cd ts tn n s) ts.length = 0
  · rw [if_pos h, cd0_ob h, cd0_sf h]; rfl
  · rw [if_neg h]
    cases m_only (m_ob ts n s (m_cd ts tn n s)) ts.length with
    | some k => rfl
    | none => cases sf (m_cd ts tn n s) ts.length 0 <;> rfl
theorem sr_fst {ts : List mT} {tn : Nat} {n s : Int32} : (m_sr ts tn n s).map Prod.fst = m_only (m_ob ts n s (m_cd ts tn n s)) ts.length := by
  unfold m_sr
  by_cases h : fb_ct (m_cd ts tn n s) ts.length = 0
  · rw [if_pos h, cd0_ob h]; rfl
  · rw [if_neg h]
    cases m_only (m_ob ts n s (m_cd ts tn n s)) ts.length <;> rfl
theorem cd_own {ts : List mT} {tn : Nat} {n s : Int32} {k : Nat} (h : m_cd ts tn n s k = true) : ∃ t, ts[k]? = some t ∧ m_own t (nI 1) n s = some (m_ix ts n s k) := m_cd_own h
theorem ob_own {ts : List mT} {tn : Nat} {n s : Int32} {k : Nat} (h : m_only (m_ob ts n s (m_cd ts tn n s)) ts.length = some k) : ∃ t, ts[k]? = some t ∧ m_own t (nI 1) n s = some (m_ix ts n s k) := by
  obtain ⟨t, h1, h2⟩ := only_get h
  unfold m_ob at h2
  rw [Bool.and_eq_true] at h2
  exact m_cd_own h2.1
theorem rs_own {ts : List mT} {tn : Nat} {n s : Int32} {p : Nat × Nat} (h : m_rs ts tn n s = some p) : ∃ t, ts[p.1]? = some t ∧ m_own t (nI 1) n s = some p.2 := by
  unfold m_rs at h
  split at h
  · cases h
  · cases h1 : m_only (m_ob ts n s (m_cd ts tn n s)) ts.length with
    | some k => rw [h1] at h; cases h; exact ob_own h1
    | none =>
      rw [h1] at h
      dsimp only at h
      cases h2 : sf (m_cd ts tn n s) ts.length 0 with
      | none => rw [h2] at h; cases h
      | some k =>
        rw [h2] at h
        cases h
        obtain ⟨-, -, h3, -⟩ := sf_some h2
        exact m_cd_own h3
theorem fm_own {ts : List mT} {d k : Nat} {n s : Int32} {p : Nat × Nat} (h : m_fm ts d k n s = some p) : ∃ t, ts[p.1]? = some t ∧ m_own t (nI 1) n s = some p.2 := by
  unfold m_fm at h
  cases ht : ts[k]? with
  | none => rw [ht] at h; cases h
  | some t =>
    rw [ht] at h
    dsimp only at h
    cases h1 : m_nr ts d k n s with
    | some q => rw [h1] at h; cases h; exact nr_own h1
    | none => rw [h1] at h; exact rs_own h
theorem fd_fm {ts : List mT} (hs : m_so ts) {n s : Int32} {k : Nat} {t : mT} (ht : ts[k]? = some t) : c_fd ts (m_Us ts) k true (ky n s) = (m_fm ts 11 k n s).map Prod.fst := by
  cases hk : ky n s with
  | none =>
    cases hf : m_fm ts 11 k n s with
    | none => rfl
    | some p =>
      obtain ⟨t', h1, h2⟩ := fm_own hf
      rw [own_1 (hs.ok h1), hk, oc_no] at h2
      cases h2
  | some K =>
    rw [← hk]
    unfold c_fd
    rw [if_neg (by rw [hk]; simp), if_pos rfl, nw11 hs (jv_ltGet ht), only_ob hs ht, fo_cd hs ht]
    unfold m_fm
    rw [ht]
    dsimp only
    cases m_nr ts 11 k n s with
    | some p => rfl
    | none =>
      show (match m_only _ _ with | some j => some j | none => _) = (m_rs ts (mt_n t) n s).map Prod.fst
      rw [rs_fst]
      cases m_only (m_ob ts n s (m_cd ts (mt_n t) n s)) ts.length <;> rfl
theorem fd_ff {ts : List mT} (hs : m_so ts) {n s : Int32} {k : Nat} {t : mT} (ht : ts[k]? = some t) : c_fd ts (m_Us ts) k false (ky n s) = (m_ff ts 11 k n s).map Prod.fst := by
  cases hk : ky n s with
  | none =>
    cases hf : m_ff ts 11 k n s with
    | none => rfl
    | some p =>
      obtain ⟨t', h1, h2⟩ := ffx_own hf
      rw [own_0 (hs.ok h1), hk, oc_no] at h2
      cases h2
  | some K =>
    rw [← hk]
    unfold c_fd
    rw [if_neg (by rw [hk]; simp), if_neg (by simp)]
    exact hf_ff hs ht
/-! selection -/
theorem ky_nI {a b : Nat} (ha : a < 16) (hb : b < 4) : ky (nI a) (nI b) = some (4 * a + b) := ((ky_iff ha hb).mpr ⟨rfl, rfl⟩).symm
theorem scn_own {ts : List mT} {td : mT} {md : mM} {kd jd : Nat} : ∀ {d k : Nat} {p : Nat × Nat}, m_scn ts td md kd jd d k = some p → ∃ t, ts[p.1]? = some t ∧ m_own t (nI 1) (nI (mm_n md)) (nI (mm_s md)) = some p.2
  | 0, k, p, h => by cases h
  | d + 1, k, p, h => by
    rw [m_scn] at h
    cases ht : ts[k]? with
    | none => rw [ht] at h; cases h
    | some t =>
      rw [ht] at h
      dsimp only at h
      have up : (mt_u t).bind (fun u => (m_at ts (nI u)).bind (fun k' => m_scn ts td md kd jd d k')) = some p → ∃ t, ts[p.1]? = some t ∧ m_own t (nI 1) (nI (mm_n md)) (nI (mm_s md)) = some p.2 := fun h => by
        obtain ⟨u, -, hv⟩ := Option.bind_eq_some_iff.mp h
        obtain ⟨k', -, h2⟩ := Option.bind_eq_some_iff.mp hv
        exact scn_own h2
      cases ho : m_own t (nI 1) (nI (mm_n md)) (nI (mm_s md)) with
      | none => rw [ho] at h; exact up h
      | some j =>
        rw [ho] at h
        dsimp only at h
        cases hm : (mt_m t)[j]? with
        | none => rw [hm] at h; exact up h
        | some mo =>
          rw [hm] at h
          dsimp only at h
          split at h
          · cases h; exact ⟨t, ht, ho⟩
          · exact up h
theorem sw_scn {ts : List mT} (hs : m_so ts) {k0 j0 : Nat} {t0 : mT} {m0 : mM} {ko : Option Nat} (ht0 : ts[k0]? = some t0) (hj0 : m_oc t0 true ko = some j0) (hm0 : (mt_m t0)[j0]? = some m0) : ∀ d r, m_hg ts d r → r < ts.length → c_sw ts t0 m0 ko d (some r) = (m_scn ts t0 m0 k0 j0 (d + 1) r).map Prod.fst := by
  obtain ⟨m', e1, e2, e3⟩ := oc_some hj0
  cases hm0.symm.trans e1
  have om0 := (hs.ok ht0).2.2.2.2.2.2 m0 (List.mem_of_getElem? hm0)
  have hko : ky (nI (mm_n m0)) (nI (mm_s m0)) = ko := (ky_nI om0.1 om0.2.1).trans e3
  intro d
  induction d with
  | zero => intro r h; exact h.elim
  | succ d ih =>
    intro r h hr
    obtain ⟨t, ht⟩ := jv_getLt hr
    rw [c_sw, m_scn, ht]
    dsimp only
    rw [own_1 (hs.ok ht), hko]
    have up : c_sw ts t0 m0 ko d (m_at ts (jv_oN (mt_u t))) = ((mt_u t).bind (fun u => (m_at ts (nI u)).bind (fun k' => m_scn ts t0 m0 k0 j0 (d + 1) k'))).map Prod.fst := by
      cases hu : mt_u t with
      | none =>
        rw [show jv_oN none = -1 from rfl, at_m1 hs.n16]
        cases d <;> rfl
      | some u =>
        obtain ⟨k', h1, h2⟩ := (h t ht).2 u hu
        show c_sw ts t0 m0 ko d (m_at ts (nI u)) = ((m_at ts (nI u)).bind (fun k' => m_scn ts t0 m0 k0 j0 (d + 1) k')).map Prod.fst
        rw [h1]
        obtain ⟨t', h3, -⟩ := m_at_get h1
        exact ih k' h2 (jv_ltGet h3)
    cases hj : m_oc t true ko with
    | none =>
      have hom : m_om t true ko = none := by unfold m_om; rw [hj]; rfl
      rw [hom, if_neg (by simp)]
      exact up
    | some j =>
      obtain ⟨mo, hmo, -, -⟩ := oc_some hj
      have hom : m_om t true ko = some mo := by unfold m_om; rw [hj]; exact hmo
      rw [hom]
      dsimp only
      rw [hmo]
      dsimp only
      have hid : decide (r = k0 ∧ j = j0) = decide (mt_n t = mt_n t0) := by
        rw [decide_eq_decide]
        constructor
        · rintro ⟨h1, -⟩
          subst h1
          cases ht.symm.trans ht0; rfl
        · intro e
          have h1 := hs.1.2.1 r k0 t t0 ht ht0 e
          subst h1
          cases ht.symm.trans ht0
          exact ⟨rfl, Option.some.inj (hj.symm.trans hj0)⟩
      have htest : m_slt t0 m0 k0 j0 t mo r j = ((some mo).any m_hd && m_sf t t0 m0) := by
        unfold m_slt m_sf
        rw [hid]
        show _ = (m_hd mo && _)
        unfold m_hd
        cases mm_t mo <;> cases decide (mm_a mo = 0) <;> cases decide (mt_n t = mt_n t0) <;> cases decide (1 < mm_a m0) <;> rfl
      rw [htest]
      by_cases hc : ((some mo).any m_hd && m_sf t t0 m0) = true
      · rw [if_pos hc, if_pos hc]; rfl
      · rw [if_neg hc, if_neg hc]
        exact up
theorem scn11 {ts : List mT} (hs : m_so ts) {k0 j0 r : Nat} {t0 : mT} {m0 : mM} {ko : Option Nat} (ht0 : ts[k0]? = some t0) (hj0 : m_oc t0 true ko = some j0) (hm0 : (mt_m t0)[j0]? = some m0) (hr : r < ts.length) : c_sw ts t0 m0 ko 10 (some r) = (m_scn ts t0 m0 k0 j0 11 r).map Prod.fst := sw_scn hs ht0 hj0 hm0 10 r (hs.hg10 r hr) hr
theorem sl_sl {ts : List mT} (hs : m_so ts) {k0 j0 r0 : Nat} {t0 tr : mT} {m0 : mM} {ko : Option Nat} (ht0 : ts[k0]? = some t0) (hj0 : m_oc t0 true ko = some j0) (hm0 : (mt_m t0)[j0]? = some m0) (htr : ts[r0]? = some tr) : c_sl ts (m_Us ts) k0 ko r0 = (m_sl ts 11 t0 m0 k0 j0 r0).map Prod.fst := by
  obtain ⟨m', e1, e2, e3⟩ := oc_some hj0
  cases hm0.symm.trans e1
  have om0 := (hs.ok ht0).2.2.2.2.2.2 m0 (List.mem_of_getElem? hm0)
  have hko : ko = ky (nI (mm_n m0)) (nI (mm_s m0)) := (e3.symm.trans (ky_nI om0.1 om0.2.1).symm)
  have hom : m_om t0 true ko = some m0 := by unfold m_om; rw [hj0]; exact hm0
  unfold c_sl m_sl
  rw [ht0, htr]
  dsimp only
  rw [hom]
  dsimp only
  by_cases ha : mm_a m0 = 0
  · rw [if_pos ha, if_pos ha]; rfl
  · rw [if_neg ha, if_neg ha, scn11 hs ht0 hj0 hm0 (jv_ltGet htr)]
    cases m_scn ts t0 m0 k0 j0 11 r0 with
    | some p => rfl
    | none =>
      show m_only _ _ = (m_sr ts (mt_n tr) (nI (mm_n m0)) (nI (mm_s m0))).map Prod.fst
      rw [sr_fst, hko, only_ob hs htr]
theorem sl_own {ts : List mT} (hs : m_so ts) {k0 j0 r0 : Nat} {t0 : mT} {m0 : mM} {ko : Option Nat} (ht0 : ts[k0]? = some t0) (hj0 : m_oc t0 true ko = some j0) (hm0 : (mt_m t0)[j0]? = some m0) {o : Nat × Nat} (h : m_sl ts 11 t0 m0 k0 j0 r0 = some o) : ∃ t, ts[o.1]? = some t ∧ m_oc t true ko = some o.2 := by
  obtain ⟨m', e1, e2, e3⟩ := oc_some hj0
  cases hm0.symm.trans e1
  have om0 := (hs.ok ht0).2.2.2.2.2.2 m0 (List.mem_of_getElem? hm0)
  have hko : ky (nI (mm_n m0)) (nI (mm_s m0)) = ko := (ky_nI om0.1 om0.2.1).trans e3
  unfold m_sl at h
  cases htr : ts[r0]? with
  | none => rw [htr] at h; cases h
  | some tr =>
    rw [htr] at h
    dsimp only at h
    split at h
    · cases h; exact ⟨t0, ht0, hj0⟩
    · have fin : (∃ t, ts[o.1]? = some t ∧ m_own t (nI 1) (nI (mm_n m0)) (nI (mm_s m0)) = some o.2) → ∃ t, ts[o.1]? = some t ∧ m_oc t true ko = some o.2 := fun ⟨t, q1, q2⟩ => ⟨t, q1, by rw [← hko, ← own_1 (hs.ok q1)]; exact q2⟩
      cases h1 : m_scn ts t0 m0 k0 j0 11 r0 with
      | some p => rw [h1] at h; cases h; exact fin (scn_own h1)
      | none =>
        rw [h1] at h
        have h : m_sr ts (mt_n tr) (nI (mm_n m0)) (nI (mm_s m0)) = some o := h
        unfold m_sr at h
        split at h
        · cases h
        · cases h2 : m_only (m_ob ts (nI (mm_n m0)) (nI (mm_s m0)) (m_cd ts (mt_n tr) (nI (mm_n m0)) (nI (mm_s m0)))) ts.length with
          | none => rw [h2] at h; cases h
          | some k => rw [h2] at h; cases h; exact fin (ob_own h2)
